/-- the law under any name -/
abbrev mLn (nm : String) : q_M := (⟨RL, nm, ""⟩, cL_law, 17, some .boolean)
set_option maxRecDepth 20000 in
set_option maxHeartbeats 8000000 in
theorem c_law_46 {Γ : q_G} {nm : String} {S A : q_S} (iN : (q_n Γ : Int) ≤ 260) (J : s_Jc S A) (R0 : w_R0 S (A 151) 0) : q_Go Γ (mLn nm) 13 0 0 46 [(0, .ref (q_ad Γ 3)), (1, q_r Γ 0), (2, q_r Γ 150), (3, q_r Γ 151), (4, q_r Γ 152), (5, q_r Γ 153), (6, q_r Γ 154), (7, q_r Γ 155)] [] (KC, S) ((fun v9 _ => v9 = some (q_i 1))) := by
  refine q_iconst (pc' := 47) dL_law_46 rfl ?_
  refine q_istore (pc' := 49) (L' := [(8, q_i 0), (0, .ref (q_ad Γ 3)), (1, q_r Γ 0), (2, q_r Γ 150), (3, q_r Γ 151), (4, q_r Γ 152), (5, q_r Γ 153), (6, q_r Γ 154), (7, q_r Γ 155)]) dL_law_47 rfl (show _ < 17 by decide) rfl ?_
  have qlp_49 : ∀ (qn_49 : Nat) (S2 A2 : q_S) (r : Int), (0 ≤ r) → (r ≤ 4) → (s_Jc S2 A2) → (w_R0 S2 (A2 151) r) → ((4 - r).toNat) = qn_49 → q_Go Γ (mLn nm) 13 0 0 49 [(0, .ref (q_ad Γ 3)), (1, q_r Γ 0), (2, q_r Γ 150), (3, q_r Γ 151), (4, q_r Γ 152), (5, q_r Γ 153), (6, q_r Γ 154), (7, q_r Γ 155), (8, q_i r)] [] (KC, S2) ((fun v9 _ => v9 = some (q_i 1))) := by
    intro qn_49
    induction qn_49 using Nat.strongRecOn with
    | ind qn_49 qih_49 =>
      intro S2 A2 r qa_49_0 qa_49_1 qa_49_2 qa_49_3 qhn_49
      subst qhn_49
      refine q_iload (pc' := 51) 8 dL_law_49 rfl rfl ?_
      refine q_iconst (pc' := 52) dL_law_51 rfl ?_
      refine q_icmp_ge (tgt := 177) (pc' := 55) dL_law_52 rfl rfl (by first | assumption | omega) (by decide) (fun qc_52 => ?_) (fun qc_52 => ?_)
      · have h3r := qa_49_3
        rw [show r = 4 by omega] at h3r
        have HR := w_R0_4 h3r
        refine q_iconst (pc' := 178) dL_law_177 rfl ?_
        refine q_istore (pc' := 180) (L' := [(8, q_i 0), (0, .ref (q_ad Γ 3)), (1, q_r Γ 0), (2, q_r Γ 150), (3, q_r Γ 151), (4, q_r Γ 152), (5, q_r Γ 153), (6, q_r Γ 154), (7, q_r Γ 155)]) dL_law_178 rfl (show _ < 17 by decide) rfl ?_
        have qlp_180 : ∀ (qn_180 : Nat) (S3 A3 : q_S) (tn : Int), (0 ≤ tn) → (tn ≤ 18) → (s_Jc S3 A3) → (w_R S3 (A3 151)) → ((18 - tn).toNat) = qn_180 → q_Go Γ (mLn nm) 13 0 0 180 [(0, .ref (q_ad Γ 3)), (1, q_r Γ 0), (2, q_r Γ 150), (3, q_r Γ 151), (4, q_r Γ 152), (5, q_r Γ 153), (6, q_r Γ 154), (7, q_r Γ 155), (8, q_i tn)] [] (KC, S3) ((fun v9 _ => v9 = some (q_i 1))) := by
          intro qn_180
          induction qn_180 using Nat.strongRecOn with
          | ind qn_180 qih_180 =>
            intro S3 A3 tn qa_180_0 qa_180_1 qa_180_2 qa_180_3 qhn_180
            subst qhn_180
            have ok3 : s_ok (A3 151) := qa_180_2.F.2.1
            have h43 : A3 151 0 = 4 := qa_180_3.1
            have c33 := ok3.2.2.1
            have c34 := ok3.2.2.2.1
            refine q_iload (pc' := 182) 8 dL_law_180 rfl rfl ?_
            refine q_bipush (pc' := 184) dL_law_182 rfl rfl ?_
            refine q_icmp_ge (tgt := 741) (pc' := 187) dL_law_184 rfl rfl (by first | assumption | omega) (by decide) (fun qc_184 => ?_) (fun qc_184 => ?_)
            · refine q_iconst (pc' := 742) dL_law_741 rfl ?_
              exact q_iret dL_law_742 rfl rfl rfl
            · refine q_aloadn (pc' := 188) 0 dL_law_187 rfl rfl ?_
              refine q_iconst (pc' := 189) dL_law_188 rfl ?_
              refine q_iload (pc' := 191) 8 dL_law_189 rfl rfl ?_
              refine q_iadd (pc' := 192) dL_law_191 rfl ?_
              refine q_callSQ (pc' := 195) dL_law_192 rfl lL_74 iL_cell (c_L_cell (by first | assumption | omega) (by first | assumption | omega) (by first | assumption | omega)) rfl rfl (Nat.le_of_ble_eq_true rfl) (Nat.le_of_ble_eq_true rfl) (Nat.le_of_ble_eq_true rfl) (fun vq wq hq => ?_)
              obtain ⟨xc192, rfl, rx192, rfl⟩ := hq
              show q_Go Γ (mLn nm) 13 0 0 195 [(0, .ref (q_ad Γ 3)), (1, q_r Γ 0), (2, q_r Γ 150), (3, q_r Γ 151), (4, q_r Γ 152), (5, q_r Γ 153), (6, q_r Γ 154), (7, q_r Γ 155), (8, q_i tn)] [q_i xc192] (KC, S3) ((fun v9 _ => v9 = some (q_i 1)))
              refine q_istore (pc' := 197) (L' := [(9, q_i xc192), (0, .ref (q_ad Γ 3)), (1, q_r Γ 0), (2, q_r Γ 150), (3, q_r Γ 151), (4, q_r Γ 152), (5, q_r Γ 153), (6, q_r Γ 154), (7, q_r Γ 155), (8, q_i tn)]) dL_law_195 rfl (show _ < 17 by decide) rfl ?_
              refine q_iload (pc' := 199) 0 dL_law_197 rfl rfl ?_
              refine q_bipush (pc' := 201) dL_law_199 rfl rfl ?_
              refine q_callSQ (pc' := 204) dL_law_201 rfl lL_78 iL_low (c_L_low (by first | assumption | omega) (by first | assumption | omega)) rfl rfl (Nat.le_of_ble_eq_true rfl) (Nat.le_of_ble_eq_true rfl) (Nat.le_of_ble_eq_true rfl) (fun vq wq hq => ?_)
              obtain ⟨yl201, rfl, yl0201, yl1201, rfl⟩ := hq
              show q_Go Γ (mLn nm) 13 0 0 204 [(9, q_i xc192), (0, .ref (q_ad Γ 3)), (1, q_r Γ 0), (2, q_r Γ 150), (3, q_r Γ 151), (4, q_r Γ 152), (5, q_r Γ 153), (6, q_r Γ 154), (7, q_r Γ 155), (8, q_i tn)] [q_i yl201] (KC, S3) ((fun v9 _ => v9 = some (q_i 1)))
              refine q_istore (pc' := 206) (L' := [(10, q_i yl201), (9, q_i xc192), (0, .ref (q_ad Γ 3)), (1, q_r Γ 0), (2, q_r Γ 150), (3, q_r Γ 151), (4, q_r Γ 152), (5, q_r Γ 153), (6, q_r Γ 154), (7, q_r Γ 155), (8, q_i tn)]) dL_law_204 rfl (show _ < 17 by decide) rfl ?_
              refine q_iload (pc' := 208) 1 dL_law_206 rfl rfl ?_
              refine q_iconst (pc' := 209) dL_law_208 rfl ?_
              refine q_ishr (pc' := 210) (z := w_sh xc192 3) dL_law_209 rfl (w_sh_e) ?_
              refine q_iconst (pc' := 211) dL_law_210 rfl ?_
              refine q_callSQ (pc' := 214) dL_law_211 rfl lL_78 iL_low (c_L_low (by first | assumption | omega) (by first | assumption | omega)) rfl rfl (Nat.le_of_ble_eq_true rfl) (Nat.le_of_ble_eq_true rfl) (Nat.le_of_ble_eq_true rfl) (fun vq wq hq => ?_)
              obtain ⟨yl211, rfl, yl0211, yl1211, rfl⟩ := hq
              show q_Go Γ (mLn nm) 13 0 0 214 [(10, q_i yl201), (9, q_i xc192), (0, .ref (q_ad Γ 3)), (1, q_r Γ 0), (2, q_r Γ 150), (3, q_r Γ 151), (4, q_r Γ 152), (5, q_r Γ 153), (6, q_r Γ 154), (7, q_r Γ 155), (8, q_i tn)] [q_i yl211] (KC, S3) ((fun v9 _ => v9 = some (q_i 1)))
              refine q_istore (pc' := 216) (L' := [(11, q_i yl211), (10, q_i yl201), (9, q_i xc192), (0, .ref (q_ad Γ 3)), (1, q_r Γ 0), (2, q_r Γ 150), (3, q_r Γ 151), (4, q_r Γ 152), (5, q_r Γ 153), (6, q_r Γ 154), (7, q_r Γ 155), (8, q_i tn)]) dL_law_214 rfl (show _ < 17 by decide) rfl ?_
              refine q_iload (pc' := 218) 0 dL_law_216 rfl rfl ?_
              refine q_iconst (pc' := 219) dL_law_218 rfl ?_
              refine q_iadd (pc' := 220) dL_law_219 rfl ?_
              refine q_iload (pc' := 222) 2 dL_law_220 rfl rfl ?_
              refine q_iconst (pc' := 223) dL_law_222 rfl ?_
              refine q_ishr (pc' := 224) (z := w_sh xc192 5) dL_law_223 rfl (w_sh_e) ?_
              refine q_iconst (pc' := 225) dL_law_224 rfl ?_
              refine q_callSQ (pc' := 228) dL_law_225 rfl lL_78 iL_low (c_L_low (by first | assumption | omega) (by first | assumption | omega)) rfl rfl (Nat.le_of_ble_eq_true rfl) (Nat.le_of_ble_eq_true rfl) (Nat.le_of_ble_eq_true rfl) (fun vq wq hq => ?_)
              obtain ⟨yl225, rfl, yl0225, yl1225, rfl⟩ := hq
              show q_Go Γ (mLn nm) 13 0 0 228 [(11, q_i yl211), (10, q_i yl201), (9, q_i xc192), (0, .ref (q_ad Γ 3)), (1, q_r Γ 0), (2, q_r Γ 150), (3, q_r Γ 151), (4, q_r Γ 152), (5, q_r Γ 153), (6, q_r Γ 154), (7, q_r Γ 155), (8, q_i tn)] [q_i yl225, q_i (yl211 + 1)] (KC, S3) ((fun v9 _ => v9 = some (q_i 1)))
              refine q_iadd (pc' := 229) dL_law_228 rfl ?_
              refine q_iconst (pc' := 230) dL_law_229 rfl ?_
              refine q_irem (pc' := 231) dL_law_230 rfl (by first | assumption | omega) (by first | assumption | omega) (by first | assumption | omega) (by first | assumption | omega) ?_
              obtain ⟨b, hb⟩ : ∃ b : Int, b = ((yl211 + 1) + yl225) % 4 := ⟨_, rfl⟩
              rw [← hb]
              have b0 : 0 ≤ b := by omega
              have b1 : b < 4 := by omega
              have bn : ¬ b = yl211 := by omega
              refine q_istore (pc' := 233) (L' := [(12, q_i b), (11, q_i yl211), (10, q_i yl201), (9, q_i xc192), (0, .ref (q_ad Γ 3)), (1, q_r Γ 0), (2, q_r Γ 150), (3, q_r Γ 151), (4, q_r Γ 152), (5, q_r Γ 153), (6, q_r Γ 154), (7, q_r Γ 155), (8, q_i tn)]) dL_law_231 rfl (show _ < 17 by decide) rfl ?_
              refine q_iload (pc' := 235) 3 dL_law_233 rfl rfl ?_
              refine q_bipush (pc' := 237) dL_law_235 rfl rfl ?_
              refine q_ishr (pc' := 238) (z := w_sh xc192 7) dL_law_237 rfl (w_sh_e) ?_
              refine q_iconst (pc' := 239) dL_law_238 rfl ?_
              refine q_callSQ (pc' := 242) dL_law_239 rfl lL_78 iL_low (c_L_low (by first | assumption | omega) (by first | assumption | omega)) rfl rfl (Nat.le_of_ble_eq_true rfl) (Nat.le_of_ble_eq_true rfl) (Nat.le_of_ble_eq_true rfl) (fun vq wq hq => ?_)
              obtain ⟨yl239, rfl, yl0239, yl1239, rfl⟩ := hq
              show q_Go Γ (mLn nm) 13 0 0 242 [(12, q_i b), (11, q_i yl211), (10, q_i yl201), (9, q_i xc192), (0, .ref (q_ad Γ 3)), (1, q_r Γ 0), (2, q_r Γ 150), (3, q_r Γ 151), (4, q_r Γ 152), (5, q_r Γ 153), (6, q_r Γ 154), (7, q_r Γ 155), (8, q_i tn)] [q_i yl239] (KC, S3) ((fun v9 _ => v9 = some (q_i 1)))
              refine q_istore (pc' := 244) (L' := [(13, q_i yl239), (12, q_i b), (11, q_i yl211), (10, q_i yl201), (9, q_i xc192), (0, .ref (q_ad Γ 3)), (1, q_r Γ 0), (2, q_r Γ 150), (3, q_r Γ 151), (4, q_r Γ 152), (5, q_r Γ 153), (6, q_r Γ 154), (7, q_r Γ 155), (8, q_i tn)]) dL_law_242 rfl (show _ < 17 by decide) rfl ?_
              have wb := w_h_b yl239
              refine q_iconst (pc' := 245) dL_law_244 rfl ?_
              refine q_iload (pc' := 247) 4 dL_law_245 rfl rfl ?_
              refine q_bipush (pc' := 249) dL_law_247 rfl rfl ?_
              refine q_ishr (pc' := 250) (z := w_sh xc192 9) dL_law_249 rfl (w_sh_e) ?_
              refine q_bipush (pc' := 252) dL_law_250 rfl rfl ?_
              refine q_callSQ (pc' := 255) dL_law_252 rfl lL_78 iL_low (c_L_low (by first | assumption | omega) (by first | assumption | omega)) rfl rfl (Nat.le_of_ble_eq_true rfl) (Nat.le_of_ble_eq_true rfl) (Nat.le_of_ble_eq_true rfl) (fun vq wq hq => ?_)
              obtain ⟨yl252, rfl, yl0252, yl1252, rfl⟩ := hq
              show q_Go Γ (mLn nm) 13 0 0 255 [(13, q_i yl239), (12, q_i b), (11, q_i yl211), (10, q_i yl201), (9, q_i xc192), (0, .ref (q_ad Γ 3)), (1, q_r Γ 0), (2, q_r Γ 150), (3, q_r Γ 151), (4, q_r Γ 152), (5, q_r Γ 153), (6, q_r Γ 154), (7, q_r Γ 155), (8, q_i tn)] [q_i yl252, q_i 1] (KC, S3) ((fun v9 _ => v9 = some (q_i 1)))
              refine q_iadd (pc' := 256) dL_law_255 rfl ?_
              refine q_istore (pc' := 258) (L' := [(14, q_i (1 + yl252)), (13, q_i yl239), (12, q_i b), (11, q_i yl211), (10, q_i yl201), (9, q_i xc192), (0, .ref (q_ad Γ 3)), (1, q_r Γ 0), (2, q_r Γ 150), (3, q_r Γ 151), (4, q_r Γ 152), (5, q_r Γ 153), (6, q_r Γ 154), (7, q_r Γ 155), (8, q_i tn)]) dL_law_256 rfl (show _ < 17 by decide) rfl ?_
              refine q_iload (pc' := 260) 5 dL_law_258 rfl rfl ?_
              refine q_bipush (pc' := 262) dL_law_260 rfl rfl ?_
              refine q_ishr (pc' := 263) (z := w_sh xc192 15) dL_law_262 rfl (w_sh_e) ?_
              refine q_bipush (pc' := 265) dL_law_263 rfl rfl ?_
              refine q_callSQ (pc' := 268) dL_law_265 rfl lL_78 iL_low (c_L_low (by first | assumption | omega) (by first | assumption | omega)) rfl rfl (Nat.le_of_ble_eq_true rfl) (Nat.le_of_ble_eq_true rfl) (Nat.le_of_ble_eq_true rfl) (fun vq wq hq => ?_)
              obtain ⟨yl265, rfl, yl0265, yl1265, rfl⟩ := hq
              show q_Go Γ (mLn nm) 13 0 0 268 [(14, q_i (1 + yl252)), (13, q_i yl239), (12, q_i b), (11, q_i yl211), (10, q_i yl201), (9, q_i xc192), (0, .ref (q_ad Γ 3)), (1, q_r Γ 0), (2, q_r Γ 150), (3, q_r Γ 151), (4, q_r Γ 152), (5, q_r Γ 153), (6, q_r Γ 154), (7, q_r Γ 155), (8, q_i tn)] [q_i yl265] (KC, S3) ((fun v9 _ => v9 = some (q_i 1)))
              refine q_istore (pc' := 270) (L' := [(15, q_i yl265), (14, q_i (1 + yl252)), (13, q_i yl239), (12, q_i b), (11, q_i yl211), (10, q_i yl201), (9, q_i xc192), (0, .ref (q_ad Γ 3)), (1, q_r Γ 0), (2, q_r Γ 150), (3, q_r Γ 151), (4, q_r Γ 152), (5, q_r Γ 153), (6, q_r Γ 154), (7, q_r Γ 155), (8, q_i tn)]) dL_law_268 rfl (show _ < 17 by decide) rfl ?_
              have qlp_678 : ∀ (S4 A4 : q_S), (s_Jc S4 A4) → (w_R S4 (A4 151)) → q_Go Γ (mLn nm) 13 0 0 678 [(0, .ref (q_ad Γ 3)), (1, q_r Γ 0), (2, q_r Γ 150), (3, q_r Γ 151), (4, q_r Γ 152), (5, q_r Γ 153), (6, q_r Γ 154), (7, q_r Γ 155), (8, q_i tn), (9, q_i xc192), (11, q_i yl211), (12, q_i b), (13, q_i yl239)] [] (KC, S4) ((fun v9 _ => v9 = some (q_i 1))) := by
                intro S4 A4 qa_678_0 qa_678_1
                refine q_aloadn (pc' := 679) 1 dL_law_678 rfl rfl ?_
                refine q_aloadn (pc' := 680) 2 dL_law_679 rfl rfl ?_
                refine q_aloadn (pc' := 681) 3 dL_law_680 rfl rfl ?_
                refine q_aload (pc' := 683) 4 dL_law_681 rfl rfl ?_
                refine q_aload (pc' := 685) 5 dL_law_683 rfl rfl ?_
                refine q_aload (pc' := 687) 6 dL_law_685 rfl rfl ?_
                refine q_aload (pc' := 689) 7 dL_law_687 rfl rfl ?_
                refine q_callSQ (pc' := 692) dL_law_689 rfl lL_99 iL_same (c_L_same (A := A4) qa_678_0 qa_678_1) rfl rfl (Nat.le_of_ble_eq_true rfl) (Nat.le_of_ble_eq_true rfl) (Nat.le_of_ble_eq_true rfl) (fun vq wq hq => ?_)
                obtain ⟨rfl, qS689, rfl, qJ689, qo689⟩ := hq
                have qR689 : w_R qS689 (A4 151) := w_R_off qa_678_1 qo689
                show q_Go Γ (mLn nm) 13 0 0 692 [(0, .ref (q_ad Γ 3)), (1, q_r Γ 0), (2, q_r Γ 150), (3, q_r Γ 151), (4, q_r Γ 152), (5, q_r Γ 153), (6, q_r Γ 154), (7, q_r Γ 155), (8, q_i tn), (9, q_i xc192), (11, q_i yl211), (12, q_i b), (13, q_i yl239)] [q_i 1] (KC, qS689) ((fun v9 _ => v9 = some (q_i 1)))
                refine q_if_eq (tgt := 733) (pc' := 695) dL_law_692 rfl rfl (by decide) (fun qc_692 => absurd qc_692 (by decide)) (fun qc_692 => ?_)
                refine q_iload (pc' := 697) 9 dL_law_695 rfl rfl ?_
                refine q_bipush (pc' := 699) dL_law_697 rfl rfl ?_
                refine q_ishr (pc' := 700) (z := w_sh xc192 18) dL_law_699 rfl (w_sh_e) ?_
                refine q_iconst (pc' := 701) dL_law_700 rfl ?_
                refine q_callSQ (pc' := 704) dL_law_701 rfl lL_78 iL_low (c_L_low (by first | assumption | omega) (by first | assumption | omega)) rfl rfl (Nat.le_of_ble_eq_true rfl) (Nat.le_of_ble_eq_true rfl) (Nat.le_of_ble_eq_true rfl) (fun vq wq hq => ?_)
                obtain ⟨yl701, rfl, yl0701, yl1701, rfl⟩ := hq
                show q_Go Γ (mLn nm) 13 0 0 704 [(0, .ref (q_ad Γ 3)), (1, q_r Γ 0), (2, q_r Γ 150), (3, q_r Γ 151), (4, q_r Γ 152), (5, q_r Γ 153), (6, q_r Γ 154), (7, q_r Γ 155), (8, q_i tn), (9, q_i xc192), (11, q_i yl211), (12, q_i b), (13, q_i yl239)] [q_i yl701] (KC, qS689) ((fun v9 _ => v9 = some (q_i 1)))
                refine q_if_ne (tgt := 735) (pc' := 707) dL_law_704 rfl rfl (by first | assumption | omega) (fun qc_704 => ?_) (fun qc_704 => ?_)
                · refine q_iinc (pc' := 738) 8 (L' := [(8, q_i (tn + 1)), (0, .ref (q_ad Γ 3)), (1, q_r Γ 0), (2, q_r Γ 150), (3, q_r Γ 151), (4, q_r Γ 152), (5, q_r Γ 153), (6, q_r Γ 154), (7, q_r Γ 155), (9, q_i xc192), (11, q_i yl211), (12, q_i b), (13, q_i yl239)]) dL_law_735 rfl rfl (show _ < 17 by decide) rfl ?_
                  refine q_goto (pc' := 180) dL_law_738 rfl ?_
                  refine p_sub [1, 2, 3, 4, 5, 6, 7, 8, 0] rfl ?_
                  exact qih_180 _ (by omega) _ A4 _ (by first | assumption | omega) (by first | assumption | omega) (by first | exact qJ727 | exact qJ689) (by first | exact qR727 | exact qR689) rfl
                · refine q_aloadn (pc' := 708) 1 dL_law_707 rfl rfl ?_
                  refine q_iload (pc' := 710) 10 dL_law_708 rfl rfl ?_
                  refine q_iload (pc' := 712) 11 dL_law_710 rfl rfl ?_
                  refine q_iload (pc' := 714) 12 dL_law_712 rfl rfl ?_
                  refine q_callSI (pc' := 717) dL_law_714 rfl lL_31 iL_hour (c_L_hour (by first | assumption | omega) (by first | assumption | omega)) rfl rfl (Nat.le_of_ble_eq_true rfl) (Nat.le_of_ble_eq_true rfl) (Nat.le_of_ble_eq_true rfl) ?_
                  refine q_iload (pc' := 719) 9 dL_law_717 rfl rfl ?_
                  refine q_bipush (pc' := 721) dL_law_719 rfl rfl ?_
                  refine q_ishr (pc' := 722) (z := w_sh xc192 10) dL_law_721 rfl (w_sh_e) ?_
                  refine q_bipush (pc' := 724) dL_law_722 rfl rfl ?_
                  refine q_callSQ (pc' := 727) dL_law_724 rfl lL_78 iL_low (c_L_low (by first | assumption | omega) (by first | assumption | omega)) rfl rfl (Nat.le_of_ble_eq_true rfl) (Nat.le_of_ble_eq_true rfl) (Nat.le_of_ble_eq_true rfl) (fun vq wq hq => ?_)
                  obtain ⟨yl724, rfl, yl0724, yl1724, rfl⟩ := hq
                  show q_Go Γ (mLn nm) 13 0 0 727 [(0, .ref (q_ad Γ 3)), (1, q_r Γ 0), (2, q_r Γ 150), (3, q_r Γ 151), (4, q_r Γ 152), (5, q_r Γ 153), (6, q_r Γ 154), (7, q_r Γ 155), (8, q_i tn), (9, q_i xc192), (11, q_i yl211), (12, q_i b), (13, q_i yl239)] [q_i yl724, q_i (w_h yl239), q_i b, q_i yl211, q_r Γ 0] (KC, qS689) ((fun v9 _ => v9 = some (q_i 1)))
                  refine q_callSQ (pc' := 730) dL_law_727 rfl lL_103 iL_would (c_L_would (A := A4) qJ689 qR689.1 yl0211 yl1211 b0 b1 bn wb.1 wb.2 yl0724 (by omega)) rfl rfl (Nat.le_of_ble_eq_true rfl) (Nat.le_of_ble_eq_true rfl) (Nat.le_of_ble_eq_true rfl) (fun vq wq hq => ?_)
                  obtain ⟨rfl, qS727, A5, rfl, qJ727, eA5, qo727⟩ := hq
                  have qR727 : w_R qS727 (A5 151) := by rw [eA5]; exact w_R_off qR689 qo727
                  show q_Go Γ (mLn nm) 13 0 0 730 [(0, .ref (q_ad Γ 3)), (1, q_r Γ 0), (2, q_r Γ 150), (3, q_r Γ 151), (4, q_r Γ 152), (5, q_r Γ 153), (6, q_r Γ 154), (7, q_r Γ 155), (8, q_i tn), (9, q_i xc192), (11, q_i yl211), (12, q_i b), (13, q_i yl239)] [q_i 1] (KC, qS727) ((fun v9 _ => v9 = some (q_i 1)))
                  refine q_if_ne (tgt := 735) (pc' := 733) dL_law_730 rfl rfl (by decide) (fun qc_730 => ?_) (fun qc_730 => absurd qc_730 (by decide))
                  refine q_iinc (pc' := 738) 8 (L' := [(8, q_i (tn + 1)), (0, .ref (q_ad Γ 3)), (1, q_r Γ 0), (2, q_r Γ 150), (3, q_r Γ 151), (4, q_r Γ 152), (5, q_r Γ 153), (6, q_r Γ 154), (7, q_r Γ 155), (9, q_i xc192), (11, q_i yl211), (12, q_i b), (13, q_i yl239)]) dL_law_735 rfl rfl (show _ < 17 by decide) rfl ?_
                  refine q_goto (pc' := 180) dL_law_738 rfl ?_
                  refine p_sub [1, 2, 3, 4, 5, 6, 7, 8, 0] rfl ?_
                  exact qih_180 _ (by omega) _ A5 _ (by first | assumption | omega) (by first | assumption | omega) (by first | exact qJ727 | exact qJ689) (by first | exact qR727 | exact qR689) rfl
              refine q_iload (pc' := 272) 5 dL_law_270 rfl rfl ?_
              refine q_if_ne (tgt := 320) (pc' := 275) dL_law_272 rfl rfl (by first | assumption | omega) (fun qc_272 => ?_) (fun qc_272 => ?_)
              · refine q_iload (pc' := 322) 5 dL_law_320 rfl rfl ?_
                refine q_iconst (pc' := 323) dL_law_322 rfl ?_
                refine q_icmp_ne (tgt := 369) (pc' := 326) dL_law_323 rfl rfl (by first | assumption | omega) (by decide) (fun qc_323 => ?_) (fun qc_323 => ?_)
                · refine q_iload (pc' := 371) 5 dL_law_369 rfl rfl ?_
                  refine q_iconst (pc' := 372) dL_law_371 rfl ?_
                  refine q_icmp_ne (tgt := 444) (pc' := 375) dL_law_372 rfl rfl (by first | assumption | omega) (by decide) (fun qc_372 => ?_) (fun qc_372 => ?_)
                  · refine q_iload (pc' := 446) 5 dL_law_444 rfl rfl ?_
                    refine q_iconst (pc' := 447) dL_law_446 rfl ?_
                    refine q_icmp_ge (tgt := 545) (pc' := 450) dL_law_447 rfl rfl (by first | assumption | omega) (by decide) (fun qc_447 => ?_) (fun qc_447 => ?_)
                    · refine q_iload (pc' := 547) 5 dL_law_545 rfl rfl ?_
                      refine q_bipush (pc' := 549) dL_law_547 rfl rfl ?_
                      refine q_icmp_ge (tgt := 658) (pc' := 552) dL_law_549 rfl rfl (by first | assumption | omega) (by decide) (fun qc_549 => ?_) (fun qc_549 => ?_)
                      · refine q_aloadn (pc' := 659) 8 dL_law_658 rfl rfl ?_
                        refine q_callVQ (pc' := 662) dL_law_659 rfl lL_93 iX8_match kc0 rfl (c_X8_match (A := A3) qa_180_2) rfl rfl (Nat.le_of_ble_eq_true rfl) (Nat.le_of_ble_eq_true rfl) (Nat.le_of_ble_eq_true rfl) (fun vq wq hq => ?_)
                        obtain ⟨rfl, qS659, rfl, qJ659, qo659⟩ := hq
                        have qR659 : w_R qS659 (A3 151) := w_R_off qa_180_3 qo659
                        show q_Go Γ (mLn nm) 13 0 0 662 [(15, q_i yl265), (14, q_i (1 + yl252)), (13, q_i yl239), (12, q_i b), (11, q_i yl211), (10, q_i yl201), (9, q_i xc192), (0, .ref (q_ad Γ 3)), (1, q_r Γ 0), (2, q_r Γ 150), (3, q_r Γ 151), (4, q_r Γ 152), (5, q_r Γ 153), (6, q_r Γ 154), (7, q_r Γ 155), (8, q_i tn)] [q_i (s_matV (A3 151))] (KC, qS659) ((fun v9 _ => v9 = some (q_i 1)))
                        refine q_aloadn (pc' := 663) 9 dL_law_662 rfl rfl ?_
                        refine q_aloadn (pc' := 664) 10 dL_law_663 rfl rfl ?_
                        refine q_aload (pc' := 666) 11 dL_law_664 rfl rfl ?_
                        refine q_aload (pc' := 668) 13 dL_law_666 rfl rfl ?_
                        refine q_aload (pc' := 670) 14 dL_law_668 rfl rfl ?_
                        refine q_callSQ (pc' := 673) dL_law_670 rfl lL_96 iL_match (c_L_match qR659 ok3 qa_180_2.F.2.2) rfl rfl (Nat.le_of_ble_eq_true rfl) (Nat.le_of_ble_eq_true rfl) (Nat.le_of_ble_eq_true rfl) (fun vq wq hq => ?_)
                        obtain ⟨rfl, qS670, rfl, qR670, qo670⟩ := hq
                        show q_Go Γ (mLn nm) 13 0 0 673 [(15, q_i yl265), (14, q_i (1 + yl252)), (13, q_i yl239), (12, q_i b), (11, q_i yl211), (10, q_i yl201), (9, q_i xc192), (0, .ref (q_ad Γ 3)), (1, q_r Γ 0), (2, q_r Γ 150), (3, q_r Γ 151), (4, q_r Γ 152), (5, q_r Γ 153), (6, q_r Γ 154), (7, q_r Γ 155), (8, q_i tn)] [q_i (s_matV (A3 151)), q_i (s_matV (A3 151))] (KC, qS670) ((fun v9 _ => v9 = some (q_i 1)))
                        have hJ4 : s_Jc qS670 (q_w1 (s_rec A3) (s_matP (A3 151))) := w_Jc_off qJ659 qo670
                        have hR4 : w_R qS670 ((q_w1 (s_rec A3) (s_matP (A3 151))) 151) := by rw [q_w1_s]; exact qR670
                        refine w_icmp_eq (tgt := 678) (pc' := 676) dL_law_673 rfl rfl ?_
                        refine p_sub [7, 8, 9, 10, 11, 12, 13, 14, 15, 6, 4, 3, 2] rfl ?_
                        exact qlp_678 _ (q_w1 (s_rec A3) (s_matP (A3 151))) (by exact hJ4) (by first | exact hR4 | exact hak.2.1 (by omega) | exact hbk.2.1 (by omega))
                      · refine q_aloadn (pc' := 553) 8 dL_law_552 rfl rfl ?_
                        refine q_iload (pc' := 555) 3 dL_law_553 rfl rfl ?_
                        refine q_iload (pc' := 557) 4 dL_law_555 rfl rfl ?_
                        refine q_iload (pc' := 559) 2 dL_law_557 rfl rfl ?_
                        refine q_callSI (pc' := 562) dL_law_559 rfl lL_31 iL_hour (c_L_hour (by first | assumption | omega) (by first | assumption | omega)) rfl rfl (Nat.le_of_ble_eq_true rfl) (Nat.le_of_ble_eq_true rfl) (Nat.le_of_ble_eq_true rfl) ?_
                        refine q_iload (pc' := 564) 1 dL_law_562 rfl rfl ?_
                        refine q_iload (pc' := 566) 0 dL_law_564 rfl rfl ?_
                        refine q_callVQ (pc' := 569) dL_law_566 rfl lL_90 iX8_bid kc0 rfl (c_X8_bid (A := A3) qa_180_2 (by first | assumption | omega) (by first | assumption | omega) (by first | assumption | omega) (by first | assumption | omega) (by first | assumption | omega)) rfl rfl (Nat.le_of_ble_eq_true rfl) (Nat.le_of_ble_eq_true rfl) (Nat.le_of_ble_eq_true rfl) (fun vq wq hq => ?_)
                        obtain ⟨rfl, qS566, rfl, qJ566, qo566⟩ := hq
                        have qR566 : w_R qS566 (A3 151) := w_R_off qa_180_3 qo566
                        show q_Go Γ (mLn nm) 13 0 0 569 [(15, q_i yl265), (14, q_i (1 + yl252)), (13, q_i yl239), (12, q_i b), (11, q_i yl211), (10, q_i yl201), (9, q_i xc192), (0, .ref (q_ad Γ 3)), (1, q_r Γ 0), (2, q_r Γ 150), (3, q_r Γ 151), (4, q_r Γ 152), (5, q_r Γ 153), (6, q_r Γ 154), (7, q_r Γ 155), (8, q_i tn)] [q_i (s_bidV (A3 151) b yl211 (w_h yl239) (1 + yl252) yl265)] (KC, qS566) ((fun v9 _ => v9 = some (q_i 1)))
                        have hbk := w_aBid qR566 ok3 (b := b) (a := yl211) (i := yl239) (u := 1 + yl252) (p := yl265) (by omega) (by omega) (by omega) (by omega) b0 b1 bn (by omega) (by omega) (by omega) (by omega)
                        refine p_eq (y := (if A3 151 4 = 10 then -4 else A3 151 4 + 1)) hbk.1 ?_
                        have qlp_592 : q_Go Γ (mLn nm) 13 0 0 592 [(0, .ref (q_ad Γ 3)), (1, q_r Γ 0), (2, q_r Γ 150), (3, q_r Γ 151), (4, q_r Γ 152), (5, q_r Γ 153), (6, q_r Γ 154), (7, q_r Γ 155), (8, q_i tn), (9, q_i xc192), (11, q_i yl211), (12, q_i b), (13, q_i yl239), (14, q_i (1 + yl252)), (15, q_i yl265)] [] (KC, qS566) ((fun v9 _ => v9 = some (q_i 1))) := by
                          have hJ4 := qJ566
                          refine q_aloadn (pc' := 593) 2 dL_law_592 rfl rfl ?_
                          refine q_iconst (pc' := 594) dL_law_593 rfl ?_
                          refine p_iald (pc' := 595) dL_law_594 rfl kc150 (by first | assumption | omega) (by first | assumption | omega) (by decide) (fun qy_594 eqy_594 rqy_594 => ?_)
                          have vqy_594 : qy_594 = A3 151 4 := eqy_594.trans (w_q1 qR566)
                          rw [vqy_594]
                          refine q_bipush (pc' := 597) dL_law_595 rfl rfl ?_
                          refine q_icmp_ge (tgt := 678) (pc' := 600) dL_law_597 rfl rfl (by first | assumption | omega) (by decide) (fun qc_597 => ?_) (fun qc_597 => ?_)
                          · refine p_sub [0, 1, 2, 3, 4, 5, 6, 7, 8, 9, 10, 11, 12] rfl ?_
                            exact qlp_678 _ (s_bidS A3 b yl211 (w_h yl239) (1 + yl252) yl265) (by exact hJ4) (by first | exact hR4 | exact hak.2.1 (by omega) | exact hbk.2.1 (by omega))
                          · refine q_iconst (pc' := 601) dL_law_600 rfl ?_
                            refine q_aloadn (pc' := 602) 2 dL_law_601 rfl rfl ?_
                            refine q_iconst (pc' := 603) dL_law_602 rfl ?_
                            refine q_dup2 (pc' := 604) dL_law_603 rfl rfl rfl ?_
                            refine p_iald (pc' := 605) dL_law_604 rfl kc150 (by first | assumption | omega) (by first | assumption | omega) (by decide) (fun qy_604 eqy_604 rqy_604 => ?_)
                            have vqy_604 : qy_604 = A3 151 4 := eqy_604.trans (w_q1 qR566)
                            rw [vqy_604]
                            refine q_dup_x2 (pc' := 606) dL_law_605 rfl rfl rfl rfl ?_
                            refine q_iconst (pc' := 607) dL_law_606 rfl ?_
                            refine q_iadd (pc' := 608) dL_law_607 rfl ?_
                            refine p_iast (pc' := 609) dL_law_608 rfl kc150 (by first | assumption | omega) (by first | assumption | omega) (by decide) (by first | assumption | omega) ?_
                            refine q_imul (pc' := 610) dL_law_609 rfl ?_
                            refine q_istore (pc' := 612) (L' := [(16, q_i (5 * (A3 151 4))), (0, .ref (q_ad Γ 3)), (1, q_r Γ 0), (2, q_r Γ 150), (3, q_r Γ 151), (4, q_r Γ 152), (5, q_r Γ 153), (6, q_r Γ 154), (7, q_r Γ 155), (8, q_i tn), (9, q_i xc192), (11, q_i yl211), (12, q_i b), (13, q_i yl239), (14, q_i (1 + yl252)), (15, q_i yl265)]) dL_law_610 rfl (show _ < 17 by decide) rfl ?_
                            refine q_aload (pc' := 614) 8 dL_law_612 rfl rfl ?_
                            refine q_iload (pc' := 616) 0 dL_law_614 rfl rfl ?_
                            refine q_iload (pc' := 618) 11 dL_law_616 rfl rfl ?_
                            refine p_iast (pc' := 619) dL_law_618 rfl kc155 (by first | assumption | omega) (by first | assumption | omega) (by decide) (by first | assumption | omega) ?_
                            refine q_aload (pc' := 621) 8 dL_law_619 rfl rfl ?_
                            refine q_iload (pc' := 623) 0 dL_law_621 rfl rfl ?_
                            refine q_iconst (pc' := 624) dL_law_623 rfl ?_
                            refine q_iadd (pc' := 625) dL_law_624 rfl ?_
                            refine q_iload (pc' := 627) 13 dL_law_625 rfl rfl ?_
                            refine p_iast (pc' := 628) dL_law_627 rfl kc155 (by first | assumption | omega) (by first | assumption | omega) (by decide) (by first | assumption | omega) ?_
                            refine q_aload (pc' := 630) 8 dL_law_628 rfl rfl ?_
                            refine q_iload (pc' := 632) 0 dL_law_630 rfl rfl ?_
                            refine q_iconst (pc' := 633) dL_law_632 rfl ?_
                            refine q_iadd (pc' := 634) dL_law_633 rfl ?_
                            refine q_iload (pc' := 636) 14 dL_law_634 rfl rfl ?_
                            refine p_iast (pc' := 637) dL_law_636 rfl kc155 (by first | assumption | omega) (by first | assumption | omega) (by decide) (by first | assumption | omega) ?_
                            refine q_aload (pc' := 639) 8 dL_law_637 rfl rfl ?_
                            refine q_iload (pc' := 641) 0 dL_law_639 rfl rfl ?_
                            refine q_iconst (pc' := 642) dL_law_641 rfl ?_
                            refine q_iadd (pc' := 643) dL_law_642 rfl ?_
                            refine q_iload (pc' := 645) 15 dL_law_643 rfl rfl ?_
                            refine p_iast (pc' := 646) dL_law_645 rfl kc155 (by first | assumption | omega) (by first | assumption | omega) (by decide) (by first | assumption | omega) ?_
                            refine q_aload (pc' := 648) 8 dL_law_646 rfl rfl ?_
                            refine q_iload (pc' := 650) 0 dL_law_648 rfl rfl ?_
                            refine q_iconst (pc' := 651) dL_law_650 rfl ?_
                            refine q_iadd (pc' := 652) dL_law_651 rfl ?_
                            refine q_iload (pc' := 654) 12 dL_law_652 rfl rfl ?_
                            refine p_iast (pc' := 655) dL_law_654 rfl kc155 (by first | assumption | omega) (by first | assumption | omega) (by decide) (by first | assumption | omega) ?_
                            have hJ4 : s_Jc ((q_up (q_up (q_up (q_up (q_up (q_up qS566 150 1 ((A3 151 4) + 1)) 155 (5 * (A3 151 4)) yl211) 155 ((5 * (A3 151 4)) + 1) yl239) 155 ((5 * (A3 151 4)) + 2) (1 + yl252)) 155 ((5 * (A3 151 4)) + 3) yl265) 155 ((5 * (A3 151 4)) + 4) b)) (s_bidS A3 b yl211 (w_h yl239) (1 + yl252) yl265) := w_Jc_off qJ566 (w_offT_u (w_offT_u (w_offT_u (w_offT_u (w_offT_u (w_offT_u (w_offT_r) (by decide)) (by decide)) (by decide)) (by decide)) (by decide)) (by decide))
                            have hR4 := hbk.2.2 (by omega)
                            refine q_goto (pc' := 678) dL_law_655 rfl ?_
                            refine p_sub [1, 2, 3, 4, 5, 6, 7, 8, 9, 10, 11, 12, 13] rfl ?_
                            exact qlp_678 _ (s_bidS A3 b yl211 (w_h yl239) (1 + yl252) yl265) (by exact hJ4) (by first | exact hR4 | exact hak.2.1 (by omega) | exact hbk.2.1 (by omega))
                        refine q_aloadn (pc' := 570) 9 dL_law_569 rfl rfl ?_
                        refine q_iconst (pc' := 571) dL_law_570 rfl ?_
                        refine p_iald (pc' := 572) dL_law_571 rfl kc150 (by first | assumption | omega) (by first | assumption | omega) (by decide) (fun qy_571 eqy_571 rqy_571 => ?_)
                        have vqy_571 : qy_571 = A3 151 4 := eqy_571.trans (w_q1 qR566)
                        rw [vqy_571]
                        refine q_bipush (pc' := 574) dL_law_572 rfl rfl ?_
                        refine q_icmp_ne (tgt := 582) (pc' := 577) dL_law_574 rfl rfl (by first | assumption | omega) (by decide) (fun qc_574 => ?_) (fun qc_574 => ?_)
                        · refine q_aloadn (pc' := 583) 9 dL_law_582 rfl rfl ?_
                          refine q_iconst (pc' := 584) dL_law_583 rfl ?_
                          refine p_iald (pc' := 585) dL_law_584 rfl kc150 (by first | assumption | omega) (by first | assumption | omega) (by decide) (fun qy_584 eqy_584 rqy_584 => ?_)
                          have vqy_584 : qy_584 = A3 151 4 := eqy_584.trans (w_q1 qR566)
                          rw [vqy_584]
                          refine q_iconst (pc' := 586) dL_law_585 rfl ?_
                          refine q_iadd (pc' := 587) dL_law_586 rfl ?_
                          refine q_icmp_eq (tgt := 592) (pc' := 590) dL_law_587 rfl rfl (by first | assumption | omega) (by first | assumption | omega) (fun qc_587 => ?_) (fun qc_587 => ?_)
                          · refine p_sub [7, 8, 9, 10, 11, 12, 13, 14, 15, 6, 4, 3, 2, 1, 0] rfl ?_
                            exact qlp_592  
                          · exfalso; omega
                        · refine q_bipush (pc' := 579) dL_law_577 rfl rfl ?_
                          refine q_goto (pc' := 587) dL_law_579 rfl ?_
                          refine q_icmp_eq (tgt := 592) (pc' := 590) dL_law_587 rfl rfl (by first | assumption | omega) (by decide) (fun qc_587_1 => ?_) (fun qc_587_1 => ?_)
                          · refine p_sub [7, 8, 9, 10, 11, 12, 13, 14, 15, 6, 4, 3, 2, 1, 0] rfl ?_
                            exact qlp_592  
                          · exfalso; omega
                    · refine q_aloadn (pc' := 451) 8 dL_law_450 rfl rfl ?_
                      refine q_iload (pc' := 453) 4 dL_law_451 rfl rfl ?_
                      refine q_iload (pc' := 455) 2 dL_law_453 rfl rfl ?_
                      refine q_callSI (pc' := 458) dL_law_455 rfl lL_31 iL_hour (c_L_hour (by first | assumption | omega) (by first | assumption | omega)) rfl rfl (Nat.le_of_ble_eq_true rfl) (Nat.le_of_ble_eq_true rfl) (Nat.le_of_ble_eq_true rfl) ?_
                      refine q_iload (pc' := 460) 1 dL_law_458 rfl rfl ?_
                      refine q_iload (pc' := 462) 0 dL_law_460 rfl rfl ?_
                      refine q_callVQ (pc' := 465) dL_law_462 rfl lL_87 iX8_ask kc0 rfl (c_X8_ask (A := A3) qa_180_2 (by first | assumption | omega) (by first | assumption | omega) (by first | assumption | omega) (by first | assumption | omega)) rfl rfl (Nat.le_of_ble_eq_true rfl) (Nat.le_of_ble_eq_true rfl) (Nat.le_of_ble_eq_true rfl) (fun vq wq hq => ?_)
                      obtain ⟨rfl, qS462, rfl, qJ462, qo462⟩ := hq
                      have qR462 : w_R qS462 (A3 151) := w_R_off qa_180_3 qo462
                      show q_Go Γ (mLn nm) 13 0 0 465 [(15, q_i yl265), (14, q_i (1 + yl252)), (13, q_i yl239), (12, q_i b), (11, q_i yl211), (10, q_i yl201), (9, q_i xc192), (0, .ref (q_ad Γ 3)), (1, q_r Γ 0), (2, q_r Γ 150), (3, q_r Γ 151), (4, q_r Γ 152), (5, q_r Γ 153), (6, q_r Γ 154), (7, q_r Γ 155), (8, q_i tn)] [q_i (s_askV (A3 151) yl211 (w_h yl239) (1 + yl252) yl265)] (KC, qS462) ((fun v9 _ => v9 = some (q_i 1)))
                      have hak := w_aAsk qR462 ok3 (a := yl211) (i := yl239) (u := 1 + yl252) (p := yl265) (by omega) (by omega) (by omega) (by omega) (by omega) (by omega) (by omega) (by omega)
                      refine p_eq (y := (if A3 151 3 = 10 then -4 else A3 151 3 + 1)) hak.1 ?_
                      have qlp_488 : q_Go Γ (mLn nm) 13 0 0 488 [(0, .ref (q_ad Γ 3)), (1, q_r Γ 0), (2, q_r Γ 150), (3, q_r Γ 151), (4, q_r Γ 152), (5, q_r Γ 153), (6, q_r Γ 154), (7, q_r Γ 155), (8, q_i tn), (9, q_i xc192), (11, q_i yl211), (12, q_i b), (13, q_i yl239), (14, q_i (1 + yl252)), (15, q_i yl265)] [] (KC, qS462) ((fun v9 _ => v9 = some (q_i 1))) := by
                        have hJ4 := qJ462
                        refine q_aloadn (pc' := 489) 2 dL_law_488 rfl rfl ?_
                        refine q_iconst (pc' := 490) dL_law_489 rfl ?_
                        refine p_iald (pc' := 491) dL_law_490 rfl kc150 (by first | assumption | omega) (by first | assumption | omega) (by decide) (fun qy_490 eqy_490 rqy_490 => ?_)
                        have vqy_490 : qy_490 = A3 151 3 := eqy_490.trans (w_q0 qR462)
                        rw [vqy_490]
                        refine q_bipush (pc' := 493) dL_law_491 rfl rfl ?_
                        refine q_icmp_ge (tgt := 678) (pc' := 496) dL_law_493 rfl rfl (by first | assumption | omega) (by decide) (fun qc_493 => ?_) (fun qc_493 => ?_)
                        · refine p_sub [0, 1, 2, 3, 4, 5, 6, 7, 8, 9, 10, 11, 12] rfl ?_
                          exact qlp_678 _ (s_askS A3 yl211 (w_h yl239) (1 + yl252) yl265) (by exact hJ4) (by first | exact hR4 | exact hak.2.1 (by omega) | exact hbk.2.1 (by omega))
                        · refine q_iconst (pc' := 497) dL_law_496 rfl ?_
                          refine q_aloadn (pc' := 498) 2 dL_law_497 rfl rfl ?_
                          refine q_iconst (pc' := 499) dL_law_498 rfl ?_
                          refine q_dup2 (pc' := 500) dL_law_499 rfl rfl rfl ?_
                          refine p_iald (pc' := 501) dL_law_500 rfl kc150 (by first | assumption | omega) (by first | assumption | omega) (by decide) (fun qy_500 eqy_500 rqy_500 => ?_)
                          have vqy_500 : qy_500 = A3 151 3 := eqy_500.trans (w_q0 qR462)
                          rw [vqy_500]
                          refine q_dup_x2 (pc' := 502) dL_law_501 rfl rfl rfl rfl ?_
                          refine q_iconst (pc' := 503) dL_law_502 rfl ?_
                          refine q_iadd (pc' := 504) dL_law_503 rfl ?_
                          refine p_iast (pc' := 505) dL_law_504 rfl kc150 (by first | assumption | omega) (by first | assumption | omega) (by decide) (by first | assumption | omega) ?_
                          refine q_imul (pc' := 506) dL_law_505 rfl ?_
                          refine q_istore (pc' := 508) (L' := [(16, q_i (4 * (A3 151 3))), (0, .ref (q_ad Γ 3)), (1, q_r Γ 0), (2, q_r Γ 150), (3, q_r Γ 151), (4, q_r Γ 152), (5, q_r Γ 153), (6, q_r Γ 154), (7, q_r Γ 155), (8, q_i tn), (9, q_i xc192), (11, q_i yl211), (12, q_i b), (13, q_i yl239), (14, q_i (1 + yl252)), (15, q_i yl265)]) dL_law_506 rfl (show _ < 17 by decide) rfl ?_
                          refine q_aload (pc' := 510) 7 dL_law_508 rfl rfl ?_
                          refine q_iload (pc' := 512) 0 dL_law_510 rfl rfl ?_
                          refine q_iload (pc' := 514) 11 dL_law_512 rfl rfl ?_
                          refine p_iast (pc' := 515) dL_law_514 rfl kc154 (by first | assumption | omega) (by first | assumption | omega) (by decide) (by first | assumption | omega) ?_
                          refine q_aload (pc' := 517) 7 dL_law_515 rfl rfl ?_
                          refine q_iload (pc' := 519) 0 dL_law_517 rfl rfl ?_
                          refine q_iconst (pc' := 520) dL_law_519 rfl ?_
                          refine q_iadd (pc' := 521) dL_law_520 rfl ?_
                          refine q_iload (pc' := 523) 13 dL_law_521 rfl rfl ?_
                          refine p_iast (pc' := 524) dL_law_523 rfl kc154 (by first | assumption | omega) (by first | assumption | omega) (by decide) (by first | assumption | omega) ?_
                          refine q_aload (pc' := 526) 7 dL_law_524 rfl rfl ?_
                          refine q_iload (pc' := 528) 0 dL_law_526 rfl rfl ?_
                          refine q_iconst (pc' := 529) dL_law_528 rfl ?_
                          refine q_iadd (pc' := 530) dL_law_529 rfl ?_
                          refine q_iload (pc' := 532) 14 dL_law_530 rfl rfl ?_
                          refine p_iast (pc' := 533) dL_law_532 rfl kc154 (by first | assumption | omega) (by first | assumption | omega) (by decide) (by first | assumption | omega) ?_
                          refine q_aload (pc' := 535) 7 dL_law_533 rfl rfl ?_
                          refine q_iload (pc' := 537) 0 dL_law_535 rfl rfl ?_
                          refine q_iconst (pc' := 538) dL_law_537 rfl ?_
                          refine q_iadd (pc' := 539) dL_law_538 rfl ?_
                          refine q_iload (pc' := 541) 15 dL_law_539 rfl rfl ?_
                          refine p_iast (pc' := 542) dL_law_541 rfl kc154 (by first | assumption | omega) (by first | assumption | omega) (by decide) (by first | assumption | omega) ?_
                          have hJ4 : s_Jc ((q_up (q_up (q_up (q_up (q_up qS462 150 0 ((A3 151 3) + 1)) 154 (4 * (A3 151 3)) yl211) 154 ((4 * (A3 151 3)) + 1) yl239) 154 ((4 * (A3 151 3)) + 2) (1 + yl252)) 154 ((4 * (A3 151 3)) + 3) yl265)) (s_askS A3 yl211 (w_h yl239) (1 + yl252) yl265) := w_Jc_off qJ462 (w_offT_u (w_offT_u (w_offT_u (w_offT_u (w_offT_u (w_offT_r) (by decide)) (by decide)) (by decide)) (by decide)) (by decide))
                          have hR4 := hak.2.2 (by omega)
                          refine q_goto (pc' := 678) dL_law_542 rfl ?_
                          refine p_sub [1, 2, 3, 4, 5, 6, 7, 8, 9, 10, 11, 12, 13] rfl ?_
                          exact qlp_678 _ (s_askS A3 yl211 (w_h yl239) (1 + yl252) yl265) (by exact hJ4) (by first | exact hR4 | exact hak.2.1 (by omega) | exact hbk.2.1 (by omega))
                      refine q_aloadn (pc' := 466) 9 dL_law_465 rfl rfl ?_
                      refine q_iconst (pc' := 467) dL_law_466 rfl ?_
                      refine p_iald (pc' := 468) dL_law_467 rfl kc150 (by first | assumption | omega) (by first | assumption | omega) (by decide) (fun qy_467 eqy_467 rqy_467 => ?_)
                      have vqy_467 : qy_467 = A3 151 3 := eqy_467.trans (w_q0 qR462)
                      rw [vqy_467]
                      refine q_bipush (pc' := 470) dL_law_468 rfl rfl ?_
                      refine q_icmp_ne (tgt := 478) (pc' := 473) dL_law_470 rfl rfl (by first | assumption | omega) (by decide) (fun qc_470 => ?_) (fun qc_470 => ?_)
                      · refine q_aloadn (pc' := 479) 9 dL_law_478 rfl rfl ?_
                        refine q_iconst (pc' := 480) dL_law_479 rfl ?_
                        refine p_iald (pc' := 481) dL_law_480 rfl kc150 (by first | assumption | omega) (by first | assumption | omega) (by decide) (fun qy_480 eqy_480 rqy_480 => ?_)
                        have vqy_480 : qy_480 = A3 151 3 := eqy_480.trans (w_q0 qR462)
                        rw [vqy_480]
                        refine q_iconst (pc' := 482) dL_law_481 rfl ?_
                        refine q_iadd (pc' := 483) dL_law_482 rfl ?_
                        refine q_icmp_eq (tgt := 488) (pc' := 486) dL_law_483 rfl rfl (by first | assumption | omega) (by first | assumption | omega) (fun qc_483 => ?_) (fun qc_483 => ?_)
                        · refine p_sub [7, 8, 9, 10, 11, 12, 13, 14, 15, 6, 4, 3, 2, 1, 0] rfl ?_
                          exact qlp_488  
                        · exfalso; omega
                      · refine q_bipush (pc' := 475) dL_law_473 rfl rfl ?_
                        refine q_goto (pc' := 483) dL_law_475 rfl ?_
                        refine q_icmp_eq (tgt := 488) (pc' := 486) dL_law_483 rfl rfl (by first | assumption | omega) (by decide) (fun qc_483_1 => ?_) (fun qc_483_1 => ?_)
                        · refine p_sub [7, 8, 9, 10, 11, 12, 13, 14, 15, 6, 4, 3, 2, 1, 0] rfl ?_
                          exact qlp_488  
                        · exfalso; omega
                  · refine q_iload (pc' := 377) 6 dL_law_375 rfl rfl ?_
                    refine q_bipush (pc' := 379) dL_law_377 rfl rfl ?_
                    refine q_ishr (pc' := 380) (z := w_sh xc192 9) dL_law_379 rfl (w_sh_e) ?_
                    refine q_bipush (pc' := 382) dL_law_380 rfl rfl ?_
                    refine q_callSQ (pc' := 385) dL_law_382 rfl lL_78 iL_low (c_L_low (by first | assumption | omega) (by first | assumption | omega)) rfl rfl (Nat.le_of_ble_eq_true rfl) (Nat.le_of_ble_eq_true rfl) (Nat.le_of_ble_eq_true rfl) (fun vq wq hq => ?_)
                    obtain ⟨yl382, rfl, yl0382, yl1382, rfl⟩ := hq
                    show q_Go Γ (mLn nm) 13 0 0 385 [(15, q_i yl265), (14, q_i (1 + yl252)), (13, q_i yl239), (12, q_i b), (11, q_i yl211), (10, q_i yl201), (9, q_i xc192), (0, .ref (q_ad Γ 3)), (1, q_r Γ 0), (2, q_r Γ 150), (3, q_r Γ 151), (4, q_r Γ 152), (5, q_r Γ 153), (6, q_r Γ 154), (7, q_r Γ 155), (8, q_i tn)] [q_i yl382] (KC, S3) ((fun v9 _ => v9 = some (q_i 1)))
                    refine q_istore (pc' := 387) (L' := [(16, q_i yl382), (15, q_i yl265), (14, q_i (1 + yl252)), (13, q_i yl239), (12, q_i b), (11, q_i yl211), (10, q_i yl201), (9, q_i xc192), (0, .ref (q_ad Γ 3)), (1, q_r Γ 0), (2, q_r Γ 150), (3, q_r Γ 151), (4, q_r Γ 152), (5, q_r Γ 153), (6, q_r Γ 154), (7, q_r Γ 155), (8, q_i tn)]) dL_law_385 rfl (show _ < 17 by decide) rfl ?_
                    refine q_aloadn (pc' := 388) 9 dL_law_387 rfl rfl ?_
                    refine q_iload (pc' := 390) 5 dL_law_388 rfl rfl ?_
                    refine q_iload (pc' := 392) 4 dL_law_390 rfl rfl ?_
                    refine q_iload (pc' := 394) 3 dL_law_392 rfl rfl ?_
                    refine q_callSI (pc' := 397) dL_law_394 rfl lL_31 iL_hour (c_L_hour (by first | assumption | omega) (by first | assumption | omega)) rfl rfl (Nat.le_of_ble_eq_true rfl) (Nat.le_of_ble_eq_true rfl) (Nat.le_of_ble_eq_true rfl) ?_
                    refine q_iload (pc' := 399) 0 dL_law_397 rfl rfl ?_
                    refine q_callVQ (pc' := 402) dL_law_399 rfl lL_57 iX8_grant kc0 rfl (c_X8_grant (A := A3) qa_180_2 (by first | assumption | omega) (by first | assumption | omega) (by first | assumption | omega) (by first | assumption | omega)) rfl rfl (Nat.le_of_ble_eq_true rfl) (Nat.le_of_ble_eq_true rfl) (Nat.le_of_ble_eq_true rfl) (fun vq wq hq => ?_)
                    obtain ⟨rfl, qS399, rfl, qJ399, qo399⟩ := hq
                    have qR399 : w_R qS399 (A3 151) := w_R_off qa_180_3 qo399
                    show q_Go Γ (mLn nm) 13 0 0 402 [(16, q_i yl382), (15, q_i yl265), (14, q_i (1 + yl252)), (13, q_i yl239), (12, q_i b), (11, q_i yl211), (10, q_i yl201), (9, q_i xc192), (0, .ref (q_ad Γ 3)), (1, q_r Γ 0), (2, q_r Γ 150), (3, q_r Γ 151), (4, q_r Γ 152), (5, q_r Γ 153), (6, q_r Γ 154), (7, q_r Γ 155), (8, q_i tn)] [q_i (s_grantV (A3 151) yl211 b (w_h yl239) yl382)] (KC, qS399) ((fun v9 _ => v9 = some (q_i 1)))
                    have hta := w_aGrant qR399 (i := yl239) (a := yl211) (b := b) (u := yl382) (by omega) (by omega) (by omega) (by omega) b0 b1 bn (by omega) (by omega)
                    refine p_eq (y := s_rt (A3 151) yl211 b (w_h yl239)) hta.1 ?_
                    refine q_aload (pc' := 404) 12 dL_law_402 rfl rfl ?_
                    refine q_bipush (pc' := 406) dL_law_404 rfl rfl ?_
                    refine q_iload (pc' := 408) 3 dL_law_406 rfl rfl ?_
                    refine q_imul (pc' := 409) dL_law_408 rfl ?_
                    refine q_iconst (pc' := 410) dL_law_409 rfl ?_
                    refine q_iload (pc' := 412) 5 dL_law_410 rfl rfl ?_
                    refine q_imul (pc' := 413) dL_law_412 rfl ?_
                    refine q_iadd (pc' := 414) dL_law_413 rfl ?_
                    refine q_iload (pc' := 416) 4 dL_law_414 rfl rfl ?_
                    refine q_iadd (pc' := 417) dL_law_416 rfl ?_
                    refine p_iald (pc' := 418) dL_law_417 rfl kc152 (by first | assumption | omega) (by first | assumption | omega) (by decide) (fun qy_417 eqy_417 rqy_417 => ?_)
                    have vqy_417 : qy_417 = s_rt (A3 151) yl211 b (w_h yl239) := eqy_417.trans (w_rt qR399 (by first | assumption | omega) (by first | assumption | omega) (by first | assumption | omega) (by first | assumption | omega) (by first | assumption | omega) (by first | assumption | omega))
                    rw [vqy_417]
                    refine w_icmp_eq (tgt := 423) (pc' := 421) dL_law_418 rfl rfl ?_
                    refine q_aload (pc' := 425) 12 dL_law_423 rfl rfl ?_
                    refine q_bipush (pc' := 427) dL_law_425 rfl rfl ?_
                    refine q_iload (pc' := 429) 3 dL_law_427 rfl rfl ?_
                    refine q_imul (pc' := 430) dL_law_429 rfl ?_
                    refine q_iconst (pc' := 431) dL_law_430 rfl ?_
                    refine q_iload (pc' := 433) 5 dL_law_431 rfl rfl ?_
                    refine q_imul (pc' := 434) dL_law_433 rfl ?_
                    refine q_iadd (pc' := 435) dL_law_434 rfl ?_
                    refine q_iload (pc' := 437) 4 dL_law_435 rfl rfl ?_
                    refine q_iadd (pc' := 438) dL_law_437 rfl ?_
                    refine q_iload (pc' := 440) 0 dL_law_438 rfl rfl ?_
                    refine p_iast (pc' := 441) dL_law_440 rfl kc152 (by first | assumption | omega) (by first | assumption | omega) (by decide) (by first | assumption | omega) ?_
                    have hJ4 : s_Jc ((q_up qS399 152 (((16 * yl239) + (4 * yl211)) + b) yl382)) (s_grantS A3 yl211 b (w_h yl239) yl382) := w_Jc_off qJ399 (w_offT_u (w_offT_r) (by decide))
                    have hR4 := hta.2
                    refine q_goto (pc' := 678) dL_law_441 rfl ?_
                    refine p_sub [8, 9, 10, 11, 12, 13, 14, 15, 16, 7, 5, 4, 3] rfl ?_
                    exact qlp_678 _ (s_grantS A3 yl211 b (w_h yl239) yl382) (by exact hJ4) (by first | exact hR4 | exact hak.2.1 (by omega) | exact hbk.2.1 (by omega))
                · refine q_iload (pc' := 328) 6 dL_law_326 rfl rfl ?_
                  refine q_bipush (pc' := 330) dL_law_328 rfl rfl ?_
                  refine q_ishr (pc' := 331) (z := w_sh xc192 9) dL_law_330 rfl (w_sh_e) ?_
                  refine q_bipush (pc' := 333) dL_law_331 rfl rfl ?_
                  refine q_callSQ (pc' := 336) dL_law_333 rfl lL_78 iL_low (c_L_low (by first | assumption | omega) (by first | assumption | omega)) rfl rfl (Nat.le_of_ble_eq_true rfl) (Nat.le_of_ble_eq_true rfl) (Nat.le_of_ble_eq_true rfl) (fun vq wq hq => ?_)
                  obtain ⟨yl333, rfl, yl0333, yl1333, rfl⟩ := hq
                  show q_Go Γ (mLn nm) 13 0 0 336 [(15, q_i yl265), (14, q_i (1 + yl252)), (13, q_i yl239), (12, q_i b), (11, q_i yl211), (10, q_i yl201), (9, q_i xc192), (0, .ref (q_ad Γ 3)), (1, q_r Γ 0), (2, q_r Γ 150), (3, q_r Γ 151), (4, q_r Γ 152), (5, q_r Γ 153), (6, q_r Γ 154), (7, q_r Γ 155), (8, q_i tn)] [q_i yl333] (KC, S3) ((fun v9 _ => v9 = some (q_i 1)))
                  refine q_istore (pc' := 338) (L' := [(16, q_i yl333), (15, q_i yl265), (14, q_i (1 + yl252)), (13, q_i yl239), (12, q_i b), (11, q_i yl211), (10, q_i yl201), (9, q_i xc192), (0, .ref (q_ad Γ 3)), (1, q_r Γ 0), (2, q_r Γ 150), (3, q_r Γ 151), (4, q_r Γ 152), (5, q_r Γ 153), (6, q_r Γ 154), (7, q_r Γ 155), (8, q_i tn)]) dL_law_336 rfl (show _ < 17 by decide) rfl ?_
                  refine q_aloadn (pc' := 339) 9 dL_law_338 rfl rfl ?_
                  refine q_iload (pc' := 341) 3 dL_law_339 rfl rfl ?_
                  refine q_callSI (pc' := 344) dL_law_341 rfl lL_31 iL_hour (c_L_hour (by first | assumption | omega) (by first | assumption | omega)) rfl rfl (Nat.le_of_ble_eq_true rfl) (Nat.le_of_ble_eq_true rfl) (Nat.le_of_ble_eq_true rfl) ?_
                  refine q_iload (pc' := 346) 0 dL_law_344 rfl rfl ?_
                  refine q_callVQ (pc' := 349) dL_law_346 rfl lL_84 iX8_wind kc0 rfl (c_X8_wind (A := A3) qa_180_2 (by first | assumption | omega) (by first | assumption | omega)) rfl rfl (Nat.le_of_ble_eq_true rfl) (Nat.le_of_ble_eq_true rfl) (Nat.le_of_ble_eq_true rfl) (fun vq wq hq => ?_)
                  obtain ⟨rfl, qS346, rfl, qJ346, qo346⟩ := hq
                  have qR346 : w_R qS346 (A3 151) := w_R_off qa_180_3 qo346
                  show q_Go Γ (mLn nm) 13 0 0 349 [(16, q_i yl333), (15, q_i yl265), (14, q_i (1 + yl252)), (13, q_i yl239), (12, q_i b), (11, q_i yl211), (10, q_i yl201), (9, q_i xc192), (0, .ref (q_ad Γ 3)), (1, q_r Γ 0), (2, q_r Γ 150), (3, q_r Γ 151), (4, q_r Γ 152), (5, q_r Γ 153), (6, q_r Γ 154), (7, q_r Γ 155), (8, q_i tn)] [q_i (s_windV (A3 151) (w_h yl239) yl333)] (KC, qS346) ((fun v9 _ => v9 = some (q_i 1)))
                  have hta := w_aWind qR346 (i := yl239) (u := yl333) (by omega) (by omega) (by omega) (by omega)
                  refine p_eq (y := A3 151 (5 + w_h yl239)) hta.1 ?_
                  refine q_aload (pc' := 351) 13 dL_law_349 rfl rfl ?_
                  refine q_iload (pc' := 353) 3 dL_law_351 rfl rfl ?_
                  refine p_iald (pc' := 354) dL_law_353 rfl kc153 (by first | assumption | omega) (by first | assumption | omega) (by decide) (fun qy_353 eqy_353 rqy_353 => ?_)
                  have vqy_353 : qy_353 = A3 151 (5 + w_h yl239) := eqy_353.trans (w_wi qR346 (by first | assumption | omega) (by first | assumption | omega))
                  rw [vqy_353]
                  refine w_icmp_eq (tgt := 359) (pc' := 357) dL_law_354 rfl rfl ?_
                  refine q_aload (pc' := 361) 13 dL_law_359 rfl rfl ?_
                  refine q_iload (pc' := 363) 3 dL_law_361 rfl rfl ?_
                  refine q_iload (pc' := 365) 0 dL_law_363 rfl rfl ?_
                  refine p_iast (pc' := 366) dL_law_365 rfl kc153 (by first | assumption | omega) (by first | assumption | omega) (by decide) (by first | assumption | omega) ?_
                  have hJ4 : s_Jc ((q_up qS346 153 yl239 yl333)) (s_windS A3 (w_h yl239) yl333) := w_Jc_off qJ346 (w_offT_u (w_offT_r) (by decide))
                  have hR4 := hta.2
                  refine q_goto (pc' := 678) dL_law_366 rfl ?_
                  refine p_sub [8, 9, 10, 11, 12, 13, 14, 15, 16, 7, 5, 4, 3] rfl ?_
                  exact qlp_678 _ (s_windS A3 (w_h yl239) yl333) (by exact hJ4) (by first | exact hR4 | exact hak.2.1 (by omega) | exact hbk.2.1 (by omega))
              · refine q_iload (pc' := 277) 6 dL_law_275 rfl rfl ?_
                refine q_bipush (pc' := 279) dL_law_277 rfl rfl ?_
                refine q_ishr (pc' := 280) (z := w_sh xc192 9) dL_law_279 rfl (w_sh_e) ?_
                refine q_iconst (pc' := 281) dL_law_280 rfl ?_
                refine q_callSQ (pc' := 284) dL_law_281 rfl lL_78 iL_low (c_L_low (by first | assumption | omega) (by first | assumption | omega)) rfl rfl (Nat.le_of_ble_eq_true rfl) (Nat.le_of_ble_eq_true rfl) (Nat.le_of_ble_eq_true rfl) (fun vq wq hq => ?_)
                obtain ⟨yl281, rfl, yl0281, yl1281, rfl⟩ := hq
                show q_Go Γ (mLn nm) 13 0 0 284 [(15, q_i yl265), (14, q_i (1 + yl252)), (13, q_i yl239), (12, q_i b), (11, q_i yl211), (10, q_i yl201), (9, q_i xc192), (0, .ref (q_ad Γ 3)), (1, q_r Γ 0), (2, q_r Γ 150), (3, q_r Γ 151), (4, q_r Γ 152), (5, q_r Γ 153), (6, q_r Γ 154), (7, q_r Γ 155), (8, q_i tn)] [q_i yl281] (KC, S3) ((fun v9 _ => v9 = some (q_i 1)))
                refine q_istore (pc' := 286) (L' := [(16, q_i yl281), (15, q_i yl265), (14, q_i (1 + yl252)), (13, q_i yl239), (12, q_i b), (11, q_i yl211), (10, q_i yl201), (9, q_i xc192), (0, .ref (q_ad Γ 3)), (1, q_r Γ 0), (2, q_r Γ 150), (3, q_r Γ 151), (4, q_r Γ 152), (5, q_r Γ 153), (6, q_r Γ 154), (7, q_r Γ 155), (8, q_i tn)]) dL_law_284 rfl (show _ < 17 by decide) rfl ?_
                refine q_aloadn (pc' := 287) 9 dL_law_286 rfl rfl ?_
                refine q_iload (pc' := 289) 5 dL_law_287 rfl rfl ?_
                refine q_iload (pc' := 291) 0 dL_law_289 rfl rfl ?_
                refine q_callVQ (pc' := 294) dL_law_291 rfl lL_67 iX8_tilt kc0 rfl (c_X8_tilt (A := A3) qa_180_2 (by first | assumption | omega) (by first | assumption | omega)) rfl rfl (Nat.le_of_ble_eq_true rfl) (Nat.le_of_ble_eq_true rfl) (Nat.le_of_ble_eq_true rfl) (fun vq wq hq => ?_)
                obtain ⟨rfl, qS291, rfl, qJ291, qo291⟩ := hq
                have qR291 : w_R qS291 (A3 151) := w_R_off qa_180_3 qo291
                show q_Go Γ (mLn nm) 13 0 0 294 [(16, q_i yl281), (15, q_i yl265), (14, q_i (1 + yl252)), (13, q_i yl239), (12, q_i b), (11, q_i yl211), (10, q_i yl201), (9, q_i xc192), (0, .ref (q_ad Γ 3)), (1, q_r Γ 0), (2, q_r Γ 150), (3, q_r Γ 151), (4, q_r Γ 152), (5, q_r Γ 153), (6, q_r Γ 154), (7, q_r Γ 155), (8, q_i tn)] [q_i (s_tiltV (A3 151) yl211 yl281)] (KC, qS291) ((fun v9 _ => v9 = some (q_i 1)))
                have hta := w_aTilt qR291 (r := yl211) (u := yl281) (by omega) (by omega) (by omega) (by omega)
                refine p_eq (y := s_pt (A3 151) yl211 2) hta.1 ?_
                refine q_aloadn (pc' := 295) 11 dL_law_294 rfl rfl ?_
                refine q_iconst (pc' := 296) dL_law_295 rfl ?_
                refine q_iload (pc' := 298) 5 dL_law_296 rfl rfl ?_
                refine q_imul (pc' := 299) dL_law_298 rfl ?_
                refine q_iconst (pc' := 300) dL_law_299 rfl ?_
                refine q_iadd (pc' := 301) dL_law_300 rfl ?_
                refine p_iald (pc' := 302) dL_law_301 rfl kc151 (by first | assumption | omega) (by first | assumption | omega) (by decide) (fun qy_301 eqy_301 rqy_301 => ?_)
                have vqy_301 : qy_301 = s_pt (A3 151) yl211 2 := eqy_301.trans (w_pt qR291 (by first | assumption | omega) (by first | assumption | omega) (by first | assumption | omega) (by first | assumption | omega))
                rw [vqy_301]
                have rt2 := s_pt_b ok3 (r := yl211) (by omega) (by omega)
                refine w_icmp_eq (tgt := 307) (pc' := 305) dL_law_302 rfl rfl ?_
                refine q_aloadn (pc' := 308) 11 dL_law_307 rfl rfl ?_
                refine q_iconst (pc' := 309) dL_law_308 rfl ?_
                refine q_iload (pc' := 311) 5 dL_law_309 rfl rfl ?_
                refine q_imul (pc' := 312) dL_law_311 rfl ?_
                refine q_iconst (pc' := 313) dL_law_312 rfl ?_
                refine q_iadd (pc' := 314) dL_law_313 rfl ?_
                refine q_iload (pc' := 316) 0 dL_law_314 rfl rfl ?_
                refine p_iast (pc' := 317) dL_law_316 rfl kc151 (by first | assumption | omega) (by first | assumption | omega) (by decide) (by first | assumption | omega) ?_
                have hJ4 : s_Jc ((q_up qS291 151 ((4 * yl211) + 2) yl281)) (s_tiltS A3 yl211 yl281) := w_Jc_off qJ291 (w_offT_u (w_offT_r) (by decide))
                have hR4 := hta.2
                refine q_goto (pc' := 678) dL_law_317 rfl ?_
                refine p_sub [8, 9, 10, 11, 12, 13, 14, 15, 16, 7, 5, 4, 3] rfl ?_
                exact qlp_678 _ (s_tiltS A3 yl211 yl281) (by exact hJ4) (by first | exact hR4 | exact hak.2.1 (by omega) | exact hbk.2.1 (by omega))
        refine p_sub [1, 2, 3, 4, 5, 6, 7, 8, 0] rfl ?_
        exact qlp_180 _ _ A2 _ (by first | assumption | omega) (by first | assumption | omega) (by exact qa_49_2) (by exact HR) rfl
      · refine q_aloadn (pc' := 56) 0 dL_law_55 rfl rfl ?_
        refine q_iload (pc' := 58) 8 dL_law_56 rfl rfl ?_
        refine q_callSQ (pc' := 61) dL_law_58 rfl lL_74 iL_cell (c_L_cell (by first | assumption | omega) (by first | assumption | omega) (by first | assumption | omega)) rfl rfl (Nat.le_of_ble_eq_true rfl) (Nat.le_of_ble_eq_true rfl) (Nat.le_of_ble_eq_true rfl) (fun vq wq hq => ?_)
        obtain ⟨xc58, rfl, rx58, rfl⟩ := hq
        show q_Go Γ (mLn nm) 13 0 0 61 [(0, .ref (q_ad Γ 3)), (1, q_r Γ 0), (2, q_r Γ 150), (3, q_r Γ 151), (4, q_r Γ 152), (5, q_r Γ 153), (6, q_r Γ 154), (7, q_r Γ 155), (8, q_i r)] [q_i xc58] (KC, S2) ((fun v9 _ => v9 = some (q_i 1)))
        refine q_istore (pc' := 63) (L' := [(9, q_i xc58), (0, .ref (q_ad Γ 3)), (1, q_r Γ 0), (2, q_r Γ 150), (3, q_r Γ 151), (4, q_r Γ 152), (5, q_r Γ 153), (6, q_r Γ 154), (7, q_r Γ 155), (8, q_i r)]) dL_law_61 rfl (show _ < 17 by decide) rfl ?_
        have qlp_94 : ∀ (ba : Int), (ba = w_pl r) → q_Go Γ (mLn nm) 13 0 0 94 [(0, .ref (q_ad Γ 3)), (1, q_r Γ 0), (2, q_r Γ 150), (3, q_r Γ 151), (4, q_r Γ 152), (5, q_r Γ 153), (6, q_r Γ 154), (7, q_r Γ 155), (8, q_i r), (9, q_i xc58)] [q_i ba, q_i (4 * r), q_r Γ 151] (KC, S2) ((fun v9 _ => v9 = some (q_i 1))) := by
          intro ba qa_94_0
          have pb : 0 ≤ ba ∧ ba ≤ 36 := by rw [qa_94_0]; unfold w_pl; omega
          refine q_iload (pc' := 96) 9 dL_law_94 rfl rfl ?_
          refine q_iconst (pc' := 97) dL_law_96 rfl ?_
          refine q_callSQ (pc' := 100) dL_law_97 rfl lL_78 iL_low (c_L_low (by first | assumption | omega) (by first | assumption | omega)) rfl rfl (Nat.le_of_ble_eq_true rfl) (Nat.le_of_ble_eq_true rfl) (Nat.le_of_ble_eq_true rfl) (fun vq wq hq => ?_)
          obtain ⟨yl97, rfl, yl097, yl197, rfl⟩ := hq
          show q_Go Γ (mLn nm) 13 0 0 100 [(0, .ref (q_ad Γ 3)), (1, q_r Γ 0), (2, q_r Γ 150), (3, q_r Γ 151), (4, q_r Γ 152), (5, q_r Γ 153), (6, q_r Γ 154), (7, q_r Γ 155), (8, q_i r), (9, q_i xc58)] [q_i yl97, q_i ba, q_i (4 * r), q_r Γ 151] (KC, S2) ((fun v9 _ => v9 = some (q_i 1)))
          refine q_iadd (pc' := 101) dL_law_100 rfl ?_
          refine p_iast (pc' := 102) dL_law_101 rfl kc151 (by first | assumption | omega) (by first | assumption | omega) (by decide) (by first | assumption | omega) ?_
          refine q_aloadn (pc' := 103) 3 dL_law_102 rfl rfl ?_
          refine q_iconst (pc' := 104) dL_law_103 rfl ?_
          refine q_iload (pc' := 106) 8 dL_law_104 rfl rfl ?_
          refine q_imul (pc' := 107) dL_law_106 rfl ?_
          refine q_iconst (pc' := 108) dL_law_107 rfl ?_
          refine q_iadd (pc' := 109) dL_law_108 rfl ?_
          refine q_iconst (pc' := 110) dL_law_109 rfl ?_
          refine q_iload (pc' := 112) 9 dL_law_110 rfl rfl ?_
          refine q_iconst (pc' := 113) dL_law_112 rfl ?_
          refine q_ishr (pc' := 114) (z := w_sh xc58 2) dL_law_113 rfl (w_sh_e) ?_
          refine q_bipush (pc' := 116) dL_law_114 rfl rfl ?_
          refine q_callSQ (pc' := 119) dL_law_116 rfl lL_78 iL_low (c_L_low (by first | assumption | omega) (by first | assumption | omega)) rfl rfl (Nat.le_of_ble_eq_true rfl) (Nat.le_of_ble_eq_true rfl) (Nat.le_of_ble_eq_true rfl) (fun vq wq hq => ?_)
          obtain ⟨yl116, rfl, yl0116, yl1116, rfl⟩ := hq
          show q_Go Γ (mLn nm) 13 0 0 119 [(0, .ref (q_ad Γ 3)), (1, q_r Γ 0), (2, q_r Γ 150), (3, q_r Γ 151), (4, q_r Γ 152), (5, q_r Γ 153), (6, q_r Γ 154), (7, q_r Γ 155), (8, q_i r), (9, q_i xc58)] [q_i yl116, q_i 1, q_i ((4 * r) + 1), q_r Γ 151] (KC, q_up S2 151 (4 * r) (ba + yl97)) ((fun v9 _ => v9 = some (q_i 1)))
          refine q_iadd (pc' := 120) dL_law_119 rfl ?_
          refine p_iast (pc' := 121) dL_law_120 rfl kc151 (by first | assumption | omega) (by first | assumption | omega) (by decide) (by first | assumption | omega) ?_
          refine q_aloadn (pc' := 122) 3 dL_law_121 rfl rfl ?_
          refine q_iconst (pc' := 123) dL_law_122 rfl ?_
          refine q_iload (pc' := 125) 8 dL_law_123 rfl rfl ?_
          refine q_imul (pc' := 126) dL_law_125 rfl ?_
          refine q_iconst (pc' := 127) dL_law_126 rfl ?_
          refine q_iadd (pc' := 128) dL_law_127 rfl ?_
          refine q_iload (pc' := 130) 9 dL_law_128 rfl rfl ?_
          refine q_bipush (pc' := 132) dL_law_130 rfl rfl ?_
          refine q_ishr (pc' := 133) (z := w_sh xc58 7) dL_law_132 rfl (w_sh_e) ?_
          refine q_iconst (pc' := 134) dL_law_133 rfl ?_
          refine q_callSQ (pc' := 137) dL_law_134 rfl lL_78 iL_low (c_L_low (by first | assumption | omega) (by first | assumption | omega)) rfl rfl (Nat.le_of_ble_eq_true rfl) (Nat.le_of_ble_eq_true rfl) (Nat.le_of_ble_eq_true rfl) (fun vq wq hq => ?_)
          obtain ⟨yl134, rfl, yl0134, yl1134, rfl⟩ := hq
          show q_Go Γ (mLn nm) 13 0 0 137 [(0, .ref (q_ad Γ 3)), (1, q_r Γ 0), (2, q_r Γ 150), (3, q_r Γ 151), (4, q_r Γ 152), (5, q_r Γ 153), (6, q_r Γ 154), (7, q_r Γ 155), (8, q_i r), (9, q_i xc58)] [q_i yl134, q_i ((4 * r) + 2), q_r Γ 151] (KC, q_up (q_up S2 151 (4 * r) (ba + yl97)) 151 ((4 * r) + 1) (1 + yl116)) ((fun v9 _ => v9 = some (q_i 1)))
          refine p_iast (pc' := 138) dL_law_137 rfl kc151 (by first | assumption | omega) (by first | assumption | omega) (by decide) (by first | assumption | omega) ?_
          refine q_aloadn (pc' := 139) 1 dL_law_138 rfl rfl ?_
          refine q_aloadn (pc' := 140) 3 dL_law_139 rfl rfl ?_
          refine q_iconst (pc' := 141) dL_law_140 rfl ?_
          refine q_iload (pc' := 143) 8 dL_law_141 rfl rfl ?_
          refine q_imul (pc' := 144) dL_law_143 rfl ?_
          refine p_iald (pc' := 145) dL_law_144 rfl kc151 (by first | assumption | omega) (by first | assumption | omega) (by decide) (fun qy_144 eqy_144 rqy_144 => ?_)
          have eyqy_144 : qy_144 = ba + yl97 := by rw [eqy_144]; rw [q_up_nz (by omega), q_up_nz (by omega), q_up_eq]
          have ryqy_144 := rqy_144
          rw [eyqy_144] at ryqy_144 ⊢
          refine q_aloadn (pc' := 146) 3 dL_law_145 rfl rfl ?_
          refine q_iconst (pc' := 147) dL_law_146 rfl ?_
          refine q_iload (pc' := 149) 8 dL_law_147 rfl rfl ?_
          refine q_imul (pc' := 150) dL_law_149 rfl ?_
          refine q_iconst (pc' := 151) dL_law_150 rfl ?_
          refine q_iadd (pc' := 152) dL_law_151 rfl ?_
          refine p_iald (pc' := 153) dL_law_152 rfl kc151 (by first | assumption | omega) (by first | assumption | omega) (by decide) (fun qy_152 eqy_152 rqy_152 => ?_)
          have eyqy_152 : qy_152 = 1 + yl116 := by rw [eqy_152]; rw [q_up_nz (by omega), q_up_eq]
          have ryqy_152 := rqy_152
          rw [eyqy_152] at ryqy_152 ⊢
          refine q_aloadn (pc' := 154) 3 dL_law_153 rfl rfl ?_
          refine q_iconst (pc' := 155) dL_law_154 rfl ?_
          refine q_iload (pc' := 157) 8 dL_law_155 rfl rfl ?_
          refine q_imul (pc' := 158) dL_law_157 rfl ?_
          refine q_iconst (pc' := 159) dL_law_158 rfl ?_
          refine q_iadd (pc' := 160) dL_law_159 rfl ?_
          refine p_iald (pc' := 161) dL_law_160 rfl kc151 (by first | assumption | omega) (by first | assumption | omega) (by decide) (fun qy_160 eqy_160 rqy_160 => ?_)
          have eyqy_160 : qy_160 = yl134 := by rw [eqy_160]; rw [q_up_eq]
          have ryqy_160 := rqy_160
          rw [eyqy_160] at ryqy_160 ⊢
          refine q_callVQ (pc' := 164) dL_law_161 rfl lL_81 iX8_row kc0 rfl (c_X8_row (A := A2) (w_Jc_off qa_49_2 (w_offT_u (w_offT_u (w_offT_u (w_offT_r) (by decide)) (by decide)) (by decide))) (by first | assumption | omega) (by first | assumption | omega) (by first | assumption | omega)) rfl rfl (Nat.le_of_ble_eq_true rfl) (Nat.le_of_ble_eq_true rfl) (Nat.le_of_ble_eq_true rfl) (fun vq wq hq => ?_)
          obtain ⟨rfl, qS161, rfl, qJ161, qo161⟩ := hq
          show q_Go Γ (mLn nm) 13 0 0 164 [(0, .ref (q_ad Γ 3)), (1, q_r Γ 0), (2, q_r Γ 150), (3, q_r Γ 151), (4, q_r Γ 152), (5, q_r Γ 153), (6, q_r Γ 154), (7, q_r Γ 155), (8, q_i r), (9, q_i xc58)] [q_i (s_rowV (A2 151) (ba + yl97) (1 + yl116) yl134)] (KC, qS161) ((fun v9 _ => v9 = some (q_i 1)))
          have hrw := w_row qa_49_3 (p := ba + yl97) (l := 1 + yl116) (u := yl134) (by omega) (by omega) (by omega) (by omega) (by omega)
          refine p_eq (y := r) hrw.1 ?_
          refine q_iload (pc' := 166) 8 dL_law_164 rfl rfl ?_
          refine w_icmp_eq (tgt := 171) (pc' := 169) dL_law_166 rfl rfl ?_
          refine q_iinc (pc' := 174) 8 (L' := [(8, q_i (r + 1)), (0, .ref (q_ad Γ 3)), (1, q_r Γ 0), (2, q_r Γ 150), (3, q_r Γ 151), (4, q_r Γ 152), (5, q_r Γ 153), (6, q_r Γ 154), (7, q_r Γ 155), (9, q_i xc58)]) dL_law_171 rfl rfl (show _ < 17 by decide) rfl ?_
          refine q_goto (pc' := 49) dL_law_174 rfl ?_
          refine p_sub [1, 2, 3, 4, 5, 6, 7, 8, 0] rfl ?_
          exact qih_49 _ (by omega) _ (s_rowS A2 (ba + yl97) (1 + yl116) yl134) _ (by first | assumption | omega) (by first | assumption | omega) (by exact qJ161) (by rw [hrw.2]; exact w_R0_s qa_49_3 (by omega) (by omega) (by omega) qo161) rfl
        refine q_aloadn (pc' := 64) 4 dL_law_63 rfl rfl ?_
        refine q_iconst (pc' := 65) dL_law_64 rfl ?_
        refine q_iload (pc' := 67) 9 dL_law_65 rfl rfl ?_
        refine q_imul (pc' := 68) dL_law_67 rfl ?_
        refine q_iload (pc' := 70) 9 dL_law_68 rfl rfl ?_
        refine q_iconst (pc' := 71) dL_law_70 rfl ?_
        refine q_icmp_ne (tgt := 78) (pc' := 74) dL_law_71 rfl rfl (by first | assumption | omega) (by decide) (fun qc_71 => ?_) (fun qc_71 => ?_)
        · refine q_iload (pc' := 80) 9 dL_law_78 rfl rfl ?_
          refine q_iconst (pc' := 81) dL_law_80 rfl ?_
          refine q_icmp_ne (tgt := 89) (pc' := 84) dL_law_81 rfl rfl (by first | assumption | omega) (by decide) (fun qc_81 => ?_) (fun qc_81 => ?_)
          · refine q_bipush (pc' := 91) dL_law_89 rfl rfl ?_
            refine q_iload (pc' := 93) 9 dL_law_91 rfl rfl ?_
            refine q_imul (pc' := 94) dL_law_93 rfl ?_
            refine p_sub [1, 2, 3, 4, 5, 6, 7, 8, 9, 0] rfl ?_
            exact qlp_94 _ (by unfold w_pl; omega)
          · refine q_bipush (pc' := 86) dL_law_84 rfl rfl ?_
            refine q_goto (pc' := 94) dL_law_86 rfl ?_
            refine p_sub [1, 2, 3, 4, 5, 6, 7, 8, 9, 0] rfl ?_
            exact qlp_94 _ (by unfold w_pl; omega)
        · refine q_iconst (pc' := 75) dL_law_74 rfl ?_
          refine q_goto (pc' := 94) dL_law_75 rfl ?_
          refine p_sub [1, 2, 3, 4, 5, 6, 7, 8, 9, 0] rfl ?_
          exact qlp_94 _ (by unfold w_pl; omega)
  refine p_sub [1, 2, 3, 4, 5, 6, 7, 8, 0] rfl ?_
  exact qlp_49 _ _ A _ (by first | assumption | omega) (by first | assumption | omega) (by exact J) (by exact R0) rfl
