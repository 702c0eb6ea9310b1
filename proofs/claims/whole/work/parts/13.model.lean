set_option maxRecDepth 20000 in
set_option maxHeartbeats 4000000 in
theorem c_X9_copy {Γ : q_G} {S : q_S} {a b n0 n1 : Nat} {f g : Int} (ka : KC[a]? = some (.inr (0, n0))) (kb : KC[b]? = some (.inr (0, n1))) (ab : a ≠ b) (f0 : 0 ≤ f) (f1 : f + 489 ≤ n0) (g0 : 0 ≤ g) (g1 : g + 489 ≤ n1) (m0 : n0 ≤ 100000) (m1 : n1 ≤ 100000) : q_Sp Γ mX9_copy 0 0 0 [q_r Γ a, q_i f, q_r Γ b, q_i g] (KC, S) (q_ev none (KC, q_cp S a b f g 489)) := by
  show q_Go Γ mX9_copy 0 0 0 0 [(0, q_r Γ a), (1, q_i f), (2, q_r Γ b), (3, q_i g)] [] (KC, S) (q_ev none (KC, q_cp S a b f g 489))
  refine q_iconst (pc' := 1) dX9_copy_0 rfl ?_
  refine q_istore (pc' := 3) (L' := [(4, q_i 0), (0, q_r Γ a), (1, q_i f), (2, q_r Γ b), (3, q_i g)]) dX9_copy_1 rfl (by decide) rfl ?_
  have qlp_3 : ∀ (qn_3 : Nat) (S2 : q_S) (k : Int), (0 ≤ k) → (k ≤ 489) → (S2 = q_cp S a b f g k) → ((489 - k).toNat) = qn_3 → q_Go Γ mX9_copy 0 0 0 3 [(0, q_r Γ a), (1, q_i f), (2, q_r Γ b), (3, q_i g), (4, q_i k)] [] (KC, S2) (q_ev none (KC, q_cp S a b f g 489)) := by
    intro qn_3
    induction qn_3 using Nat.strongRecOn with
    | ind qn_3 qih_3 =>
      intro S2 k qa_3_0 qa_3_1 qa_3_2 qhn_3
      subst qhn_3
      refine q_iload (pc' := 5) 4 dX9_copy_3 rfl rfl ?_
      refine q_sipush (pc' := 8) dX9_copy_5 rfl rfl ?_
      refine q_icmp_ge (tgt := 29) (pc' := 11) dX9_copy_8 rfl rfl (by first | assumption | omega) (by decide) (fun qc_8 => ?_) (fun qc_8 => ?_)
      · refine p_vret dX9_copy_29 rfl ?_
        · rw [qa_3_2, show k = 489 by omega]
      · refine q_aloadn (pc' := 12) 2 dX9_copy_11 rfl rfl ?_
        refine q_iloadn (pc' := 13) 3 dX9_copy_12 rfl rfl ?_
        refine q_iload (pc' := 15) 4 dX9_copy_13 rfl rfl ?_
        refine q_iadd (pc' := 16) dX9_copy_15 rfl ?_
        refine q_aloadn (pc' := 17) 0 dX9_copy_16 rfl rfl ?_
        refine q_iloadn (pc' := 18) 1 dX9_copy_17 rfl rfl ?_
        refine q_iload (pc' := 20) 4 dX9_copy_18 rfl rfl ?_
        refine q_iadd (pc' := 21) dX9_copy_20 rfl ?_
        refine p_iald (pc' := 22) dX9_copy_21 rfl ka (by first | assumption | omega) (by first | assumption | omega) (by omega) (fun qy_21 eqy_21 rqy_21 => ?_)
        refine p_iast (pc' := 23) dX9_copy_22 rfl kb (by first | assumption | omega) (by first | assumption | omega) (by omega) (by first | assumption | omega) ?_
        refine q_iinc (pc' := 26) 4 (L' := [(4, q_i (k + 1)), (0, q_r Γ a), (1, q_i f), (2, q_r Γ b), (3, q_i g)]) dX9_copy_23 rfl rfl (by decide) rfl ?_
        refine q_goto (pc' := 3) dX9_copy_26 rfl ?_
        refine p_sub [1, 2, 3, 4, 0] rfl ?_
        exact qih_3 _ (by omega) _ _ (by first | assumption | omega) (by first | assumption | omega) (by rw [eqy_21, qa_3_2, q_cp_ne ab, q_cp_s (by omega)]) rfl
  refine p_sub [1, 2, 3, 4, 0] rfl ?_
  exact qlp_3 _ _ _ (by first | assumption | omega) (by first | assumption | omega) (by exact q_cp_0) rfl
set_option maxRecDepth 20000 in
set_option maxHeartbeats 4000000 in
theorem c_X9_record {Γ : q_G} {S : q_S} (h0 : 0 ≤ S 150 2) (h6 : S 150 2 ≤ 6) : q_Sp Γ mX9_record 1 0 0 [q_r Γ 150] (KC, S) (q_ev none (KC, s_rec S)) := by
  show q_Go Γ mX9_record 1 0 0 0 [(0, q_r Γ 150)] [] (KC, S) (q_ev none (KC, s_rec S))
  refine q_aloadn (pc' := 1) 0 dX9_record_0 rfl rfl ?_
  refine p_getJ (pc' := 4) (kz := 2) dX9_record_1 rfl fX9_34 kc150 rfl rfl (fun qy_1 eqy_1 rqy_1 => ?_)
  refine q_bipush (pc' := 6) dX9_record_4 rfl rfl ?_
  refine q_icmp_ne (tgt := 50) (pc' := 9) dX9_record_6 rfl rfl (by first | assumption | omega) (by decide) (fun qc_6 => ?_) (fun qc_6 => ?_)
  · refine q_aloadn (pc' := 51) 0 dX9_record_50 rfl rfl ?_
    refine p_getR (pc' := 54) (f := 151) dX9_record_51 rfl fX9_7 kc150 rfl ?_
    refine q_iconst (pc' := 55) dX9_record_54 rfl ?_
    refine q_aloadn (pc' := 56) 0 dX9_record_55 rfl rfl ?_
    refine p_getR (pc' := 59) (f := 152) dX9_record_56 rfl fX9_13 kc150 rfl ?_
    refine q_aloadn (pc' := 60) 0 dX9_record_59 rfl rfl ?_
    refine p_getJ (pc' := 63) (kz := 2) dX9_record_60 rfl fX9_34 kc150 rfl rfl (fun qy_60 eqy_60 rqy_60 => ?_)
    refine q_sipush (pc' := 66) dX9_record_63 rfl rfl ?_
    have f60 : qy_60 * 489 = (if S 150 2 = 6 then 2445 else S 150 2 * 489) := by rw [eqy_60]; first | (rw [q_up_eq, f42, if_pos (by omega)]; rfl) | rw [if_neg (by omega)]
    have g60 : 0 ≤ qy_60 * 489 ∧ qy_60 * 489 + 489 ≤ 2934 := by rw [f60]; split <;> omega
    refine q_imul (pc' := 67) dX9_record_66 rfl ?_
    refine q_callSV (pc' := 70) dX9_record_67 rfl lX9_38 iX9_copy (c_X9_copy kc151 kc152 (by decide) (by omega) (by omega) (by omega) (by omega) (by omega) (by omega)) rfl rfl (Nat.le_of_ble_eq_true rfl) (Nat.le_of_ble_eq_true rfl) (Nat.le_of_ble_eq_true rfl) ?_
    refine q_aloadn (pc' := 71) 0 dX9_record_70 rfl rfl ?_
    refine q_dup (pc' := 72) dX9_record_71 rfl rfl ?_
    refine p_getJ (pc' := 75) (kz := 2) dX9_record_72 rfl fX9_34 kc150 rfl rfl (fun qy_72 eqy_72 rqy_72 => ?_)
    have f72 : qy_72 = (if S 150 2 = 6 then 5 else S 150 2) := by rw [eqy_72, q_cp_ne (by decide)]; first | (rw [q_up_eq, f42, if_pos (by omega)]; rfl) | rw [if_neg (by omega)]
    refine q_iconst (pc' := 76) dX9_record_75 rfl ?_
    refine q_iadd (pc' := 77) dX9_record_76 rfl ?_
    refine p_putJ (pc' := 80) (kz := 2) dX9_record_77 rfl fX9_34 kc150 rfl rfl (rfl) (rfl) (by first | assumption | omega) ?_
    refine p_vret dX9_record_80 rfl ?_
    · unfold s_rec; rw [f60, f72]; first | (rw [if_pos (by omega : S 150 2 = 6), if_pos (by omega : S 150 2 = 6), if_pos (by omega : S 150 2 = 6), f42, qnone_, show k = 2445 by omega]; rfl) | (rw [if_neg (by omega : ¬ S 150 2 = 6), if_neg (by omega : ¬ S 150 2 = 6), if_neg (by omega : ¬ S 150 2 = 6)])
  · refine q_iconst (pc' := 10) dX9_record_9 rfl ?_
    refine q_istoren (pc' := 11) (L' := [(1, q_i 0), (0, q_r Γ 150)]) dX9_record_10 rfl rfl (by decide) rfl ?_
    have qlp_11 : ∀ (qn_11 : Nat) (S2 : q_S) (k : Int), (0 ≤ k) → (k ≤ 2445) → (S2 = q_cp S 152 152 489 0 k) → ((2445 - k).toNat) = qn_11 → q_Go Γ mX9_record 1 0 0 11 [(0, q_r Γ 150), (1, q_i k)] [] (KC, S2) (q_ev none (KC, s_rec S)) := by
      intro qn_11
      induction qn_11 using Nat.strongRecOn with
      | ind qn_11 qih_11 =>
        intro S2 k qa_11_0 qa_11_1 qa_11_2 qhn_11
        subst qhn_11
        refine q_iloadn (pc' := 12) 1 dX9_record_11 rfl rfl ?_
        refine q_sipush (pc' := 15) dX9_record_12 rfl rfl ?_
        refine q_icmp_ge (tgt := 40) (pc' := 18) dX9_record_15 rfl rfl (by first | assumption | omega) (by decide) (fun qc_15 => ?_) (fun qc_15 => ?_)
        · refine q_aloadn (pc' := 41) 0 dX9_record_40 rfl rfl ?_
          refine q_dup (pc' := 42) dX9_record_41 rfl rfl ?_
          refine p_getJ (pc' := 45) (kz := 2) dX9_record_42 rfl fX9_34 kc150 rfl rfl (fun qy_42 eqy_42 rqy_42 => ?_)
          have f42 : qy_42 = 6 := by rw [eqy_42, qa_11_2, q_cp_ne (by decide), ← eqy_1]; omega
          refine q_iconst (pc' := 46) dX9_record_45 rfl ?_
          refine q_isub (pc' := 47) dX9_record_46 rfl ?_
          refine p_putJ (pc' := 50) (kz := 2) dX9_record_47 rfl fX9_34 kc150 rfl rfl (rfl) (rfl) (by first | assumption | omega) ?_
          refine q_aloadn (pc' := 51) 0 dX9_record_50 rfl rfl ?_
          refine p_getR (pc' := 54) (f := 151) dX9_record_51 rfl fX9_7 kc150 rfl ?_
          refine q_iconst (pc' := 55) dX9_record_54 rfl ?_
          refine q_aloadn (pc' := 56) 0 dX9_record_55 rfl rfl ?_
          refine p_getR (pc' := 59) (f := 152) dX9_record_56 rfl fX9_13 kc150 rfl ?_
          refine q_aloadn (pc' := 60) 0 dX9_record_59 rfl rfl ?_
          refine p_getJ (pc' := 63) (kz := 2) dX9_record_60 rfl fX9_34 kc150 rfl rfl (fun qy_60_1 eqy_60_1 rqy_60_1 => ?_)
          refine q_sipush (pc' := 66) dX9_record_63 rfl rfl ?_
          have f60 : qy_60_1 * 489 = (if S 150 2 = 6 then 2445 else S 150 2 * 489) := by rw [eqy_60_1]; first | (rw [q_up_eq, f42, if_pos (by omega)]; rfl) | rw [if_neg (by omega)]
          have g60 : 0 ≤ qy_60_1 * 489 ∧ qy_60_1 * 489 + 489 ≤ 2934 := by rw [f60]; split <;> omega
          refine q_imul (pc' := 67) dX9_record_66 rfl ?_
          refine q_callSV (pc' := 70) dX9_record_67 rfl lX9_38 iX9_copy (c_X9_copy kc151 kc152 (by decide) (by omega) (by omega) (by omega) (by omega) (by omega) (by omega)) rfl rfl (Nat.le_of_ble_eq_true rfl) (Nat.le_of_ble_eq_true rfl) (Nat.le_of_ble_eq_true rfl) ?_
          refine q_aloadn (pc' := 71) 0 dX9_record_70 rfl rfl ?_
          refine q_dup (pc' := 72) dX9_record_71 rfl rfl ?_
          refine p_getJ (pc' := 75) (kz := 2) dX9_record_72 rfl fX9_34 kc150 rfl rfl (fun qy_72_1 eqy_72_1 rqy_72_1 => ?_)
          have f72 : qy_72_1 = (if S 150 2 = 6 then 5 else S 150 2) := by rw [eqy_72_1, q_cp_ne (by decide)]; first | (rw [q_up_eq, f42, if_pos (by omega)]; rfl) | rw [if_neg (by omega)]
          refine q_iconst (pc' := 76) dX9_record_75 rfl ?_
          refine q_iadd (pc' := 77) dX9_record_76 rfl ?_
          refine p_putJ (pc' := 80) (kz := 2) dX9_record_77 rfl fX9_34 kc150 rfl rfl (rfl) (rfl) (by first | assumption | omega) ?_
          refine p_vret dX9_record_80 rfl ?_
          · unfold s_rec; rw [f60, f72]; first | (rw [if_pos (by omega : S 150 2 = 6), if_pos (by omega : S 150 2 = 6), if_pos (by omega : S 150 2 = 6), f42, qa_11_2, show k = 2445 by omega]; rfl) | (rw [if_neg (by omega : ¬ S 150 2 = 6), if_neg (by omega : ¬ S 150 2 = 6), if_neg (by omega : ¬ S 150 2 = 6)])
        · refine q_aloadn (pc' := 19) 0 dX9_record_18 rfl rfl ?_
          refine p_getR (pc' := 22) (f := 152) dX9_record_19 rfl fX9_13 kc150 rfl ?_
          refine q_iloadn (pc' := 23) 1 dX9_record_22 rfl rfl ?_
          refine q_aloadn (pc' := 24) 0 dX9_record_23 rfl rfl ?_
          refine p_getR (pc' := 27) (f := 152) dX9_record_24 rfl fX9_13 kc150 rfl ?_
          refine q_iloadn (pc' := 28) 1 dX9_record_27 rfl rfl ?_
          refine q_sipush (pc' := 31) dX9_record_28 rfl rfl ?_
          refine q_iadd (pc' := 32) dX9_record_31 rfl ?_
          refine p_iald (pc' := 33) dX9_record_32 rfl kc152 (by first | assumption | omega) (by first | assumption | omega) (by decide) (fun qy_32 eqy_32 rqy_32 => ?_)
          refine p_iast (pc' := 34) dX9_record_33 rfl kc152 (by first | assumption | omega) (by first | assumption | omega) (by decide) (by first | assumption | omega) ?_
          refine q_iinc (pc' := 37) 1 (L' := [(1, q_i (k + 1)), (0, q_r Γ 150)]) dX9_record_34 rfl rfl (by decide) rfl ?_
          refine q_goto (pc' := 11) dX9_record_37 rfl ?_
          refine p_sub [1, 0] rfl ?_
          exact qih_11 _ (by omega) _ _ (by first | assumption | omega) (by first | assumption | omega) (by rw [eqy_32, qa_11_2, q_cp_hi (by omega), show k + 489 = 489 + k by omega]; exact (congrArg (fun j => q_up (q_cp S 152 152 489 0 k) 152 j (S 152 (489 + k))) (show k = 0 + k by omega)).trans (q_cp_s (by omega))) rfl
    refine p_sub [1, 0] rfl ?_
    exact qlp_11 _ _ _ (by first | assumption | omega) (by first | assumption | omega) (by exact q_cp_0) rfl
set_option maxRecDepth 20000 in
set_option maxHeartbeats 4000000 in
theorem c_X9_tilted {Γ : q_G} {S : q_S} {r u : Int} (r0 : 0 ≤ r) (r1 : r < 6) (ur : q_rg u) : q_Sp Γ mX9_tilted 1 0 0 [q_r Γ 150, q_i r, q_i u] (KC, S) (q_ev (some (q_i (s_pt (S 151) r 2))) (KC, q_up S 151 (15 + 4 * r + 2) u)) := by
  show q_Go Γ mX9_tilted 1 0 0 0 [(0, q_r Γ 150), (1, q_i r), (2, q_i u)] [] (KC, S) (q_ev (some (q_i (s_pt (S 151) r 2))) (KC, q_up S 151 (15 + 4 * r + 2) u))
  refine q_aloadn (pc' := 1) 0 dX9_tilted_0 rfl rfl ?_
  refine q_iloadn (pc' := 2) 1 dX9_tilted_1 rfl rfl ?_
  refine q_iconst (pc' := 3) dX9_tilted_2 rfl ?_
  refine q_callVI (pc' := 6) dX9_tilted_3 rfl lX9_46 iX9_part kc150 rfl (c_X9_part (by first | assumption | omega) (by first | assumption | omega)) rfl rfl (Nat.le_of_ble_eq_true rfl) (Nat.le_of_ble_eq_true rfl) (Nat.le_of_ble_eq_true rfl) ?_
  refine q_istoren (pc' := 7) (L' := [(3, q_i (s_pt (S 151) r 2)), (0, q_r Γ 150), (1, q_i r), (2, q_i u)]) dX9_tilted_6 rfl rfl (by decide) rfl ?_
  refine q_aloadn (pc' := 8) 1 dX9_tilted_7 rfl rfl ?_
  refine p_getR (pc' := 11) (f := 151) dX9_tilted_8 rfl fX9_7 kc150 rfl ?_
  refine q_bipush (pc' := 13) dX9_tilted_11 rfl rfl ?_
  refine q_iconst (pc' := 14) dX9_tilted_13 rfl ?_
  refine q_iloadn (pc' := 15) 2 dX9_tilted_14 rfl rfl ?_
  refine q_imul (pc' := 16) dX9_tilted_15 rfl ?_
  refine q_iadd (pc' := 17) dX9_tilted_16 rfl ?_
  refine q_iconst (pc' := 18) dX9_tilted_17 rfl ?_
  refine q_iadd (pc' := 19) dX9_tilted_18 rfl ?_
  refine q_iloadn (pc' := 20) 3 dX9_tilted_19 rfl rfl ?_
  refine p_iast (pc' := 21) dX9_tilted_20 rfl kc151 (by first | assumption | omega) (by first | assumption | omega) (by decide) (by first | assumption | omega) ?_
  refine q_iloadn (pc' := 22) 0 dX9_tilted_21 rfl rfl ?_
  refine p_iret dX9_tilted_22 rfl ?_ ?_
  · rfl
  · rfl
set_option maxRecDepth 20000 in
set_option maxHeartbeats 4000000 in
theorem c_X9_setRight {Γ : q_G} {S : q_S} {a b h u : Int} (a0 : 0 ≤ a) (a1 : a < 6) (b0 : 0 ≤ b) (b1 : b < 6) (h0 : 0 ≤ h) (h1 : h < 10) (ur : q_rg u) : q_Sp Γ mX9_setRight 0 0 0 [q_r Γ 150, q_i a, q_i b, q_i h, q_i u] (KC, S) (q_ev none (KC, q_up S 151 (39 + 10 * (6 * a + b) + h) u)) := by
  show q_Go Γ mX9_setRight 0 0 0 0 [(0, q_r Γ 150), (1, q_i a), (2, q_i b), (3, q_i h), (4, q_i u)] [] (KC, S) (q_ev none (KC, q_up S 151 (39 + 10 * (6 * a + b) + h) u))
  refine q_aloadn (pc' := 1) 0 dX9_setRight_0 rfl rfl ?_
  refine p_getR (pc' := 4) (f := 151) dX9_setRight_1 rfl fX9_7 kc150 rfl ?_
  refine q_bipush (pc' := 6) dX9_setRight_4 rfl rfl ?_
  refine q_bipush (pc' := 8) dX9_setRight_6 rfl rfl ?_
  refine q_bipush (pc' := 10) dX9_setRight_8 rfl rfl ?_
  refine q_iloadn (pc' := 11) 1 dX9_setRight_10 rfl rfl ?_
  refine q_imul (pc' := 12) dX9_setRight_11 rfl ?_
  refine q_iloadn (pc' := 13) 2 dX9_setRight_12 rfl rfl ?_
  refine q_iadd (pc' := 14) dX9_setRight_13 rfl ?_
  refine q_imul (pc' := 15) dX9_setRight_14 rfl ?_
  refine q_iadd (pc' := 16) dX9_setRight_15 rfl ?_
  refine q_iloadn (pc' := 17) 3 dX9_setRight_16 rfl rfl ?_
  refine q_iadd (pc' := 18) dX9_setRight_17 rfl ?_
  refine q_iload (pc' := 20) 4 dX9_setRight_18 rfl rfl ?_
  refine p_iast (pc' := 21) dX9_setRight_20 rfl kc151 (by first | assumption | omega) (by first | assumption | omega) (by decide) (by first | assumption | omega) ?_
  refine p_vret dX9_setRight_21 rfl ?_
  · rfl
set_option maxRecDepth 20000 in
set_option maxHeartbeats 4000000 in
theorem c_X9_tilt {Γ : q_G} {S : q_S} {r u : Int} (ok : s_ok (S 151)) (h0 : 0 ≤ S 150 2) (h6 : S 150 2 ≤ 6) (rr : q_rg r) (ur : q_rg u) : q_Sp Γ mX9_tilt 3 0 0 [q_r Γ 150, q_i r, q_i u] (KC, S) (q_ev (some (q_i (s_tiltV (S 151) r u))) (KC, s_tiltS S r u)) := by
  show q_Go Γ mX9_tilt 3 0 0 0 [(0, q_r Γ 150), (1, q_i r), (2, q_i u)] [] (KC, S) (q_ev (some (q_i (s_tiltV (S 151) r u))) (KC, s_tiltS S r u))
  have rw0 := s_rows_b ok
  refine q_aloadn (pc' := 1) 0 dX9_tilt_0 rfl rfl ?_
  refine q_iloadn (pc' := 2) 1 dX9_tilt_1 rfl rfl ?_
  refine q_iloadn (pc' := 3) 2 dX9_tilt_2 rfl rfl ?_
  refine q_callVI (pc' := 6) dX9_tilt_3 rfl lX9_105 iX9_whyNotTilted kc150 rfl (c_X9_whyNotTilted (by first | assumption | (rw [s_rec_151]; assumption) | omega) (by first | assumption | (rw [s_rec_151]; assumption) | omega) (by first | assumption | (rw [s_rec_151]; assumption) | omega)) rfl rfl (Nat.le_of_ble_eq_true rfl) (Nat.le_of_ble_eq_true rfl) (Nat.le_of_ble_eq_true rfl) ?_
  refine q_istoren (pc' := 7) (L' := [(3, q_i (s_wTilt (S 151) r u)), (0, q_r Γ 150), (1, q_i r), (2, q_i u)]) dX9_tilt_6 rfl rfl (by decide) rfl ?_
  have hw : s_wTilt (S 151) r u = -1 ∨ s_wTilt (S 151) r u = -2 ∨ (s_wTilt (S 151) r u = 0 ∧ (0 ≤ r ∧ r < S 151 0) ∧ (0 ≤ u ∧ u ≤ 4)) := by unfold s_wTilt; omega
  refine q_iloadn (pc' := 8) 0 dX9_tilt_7 rfl rfl ?_
  refine q_if_ge (tgt := 13) (pc' := 11) dX9_tilt_8 rfl rfl (by first | assumption | (rw [s_rec_151]; assumption) | omega) (fun qc_8 => ?_) (fun qc_8 => ?_)
  · refine q_aloadn (pc' := 14) 1 dX9_tilt_13 rfl rfl ?_
    refine q_callVV (pc' := 17) dX9_tilt_14 rfl lX9_99 iX9_record kc150 rfl (c_X9_record (by first | assumption | (rw [s_rec_151]; assumption) | omega) (by first | assumption | (rw [s_rec_151]; assumption) | omega)) rfl rfl (Nat.le_of_ble_eq_true rfl) (Nat.le_of_ble_eq_true rfl) (Nat.le_of_ble_eq_true rfl) ?_
    refine q_aloadn (pc' := 18) 1 dX9_tilt_17 rfl rfl ?_
    refine q_iloadn (pc' := 19) 2 dX9_tilt_18 rfl rfl ?_
    refine q_iloadn (pc' := 20) 3 dX9_tilt_19 rfl rfl ?_
    refine q_callVI (pc' := 23) dX9_tilt_20 rfl lX9_108 iX9_tilted kc150 rfl (c_X9_tilted (by first | assumption | (rw [s_rec_151]; assumption) | omega) (by first | assumption | (rw [s_rec_151]; assumption) | omega) (by first | assumption | (rw [s_rec_151]; assumption) | omega)) rfl rfl (Nat.le_of_ble_eq_true rfl) (Nat.le_of_ble_eq_true rfl) (Nat.le_of_ble_eq_true rfl) ?_
    refine p_iret dX9_tilt_23 rfl ?_ ?_
    · (try rw [s_rec_151]); unfold s_tiltV; first | (rw [if_pos (by omega)]; done) | (rw [if_neg (by omega)]; done)
    · unfold s_tiltS; first | rw [if_pos (by omega)] | rw [if_neg (by omega)]
  · refine q_iloadn (pc' := 12) 0 dX9_tilt_11 rfl rfl ?_
    refine p_iret dX9_tilt_12 rfl ?_ ?_
    · (try rw [s_rec_151]); unfold s_tiltV; first | (rw [if_pos (by omega)]; done) | (rw [if_neg (by omega)]; done)
    · unfold s_tiltS; first | rw [if_pos (by omega)] | rw [if_neg (by omega)]
set_option maxRecDepth 20000 in
set_option maxHeartbeats 4000000 in
theorem c_X9_grant {Γ : q_G} {S : q_S} {a b h u : Int} (ok : s_ok (S 151)) (h0 : 0 ≤ S 150 2) (h6 : S 150 2 ≤ 6) (ar : q_rg a) (br : q_rg b) (hr : q_rg h) (ur : q_rg u) : q_Sp Γ mX9_grant 3 0 0 [q_r Γ 150, q_i a, q_i b, q_i h, q_i u] (KC, S) (q_ev (some (q_i (s_grantV (S 151) a b h u))) (KC, s_grantS S a b h u)) := by
  show q_Go Γ mX9_grant 3 0 0 0 [(0, q_r Γ 150), (1, q_i a), (2, q_i b), (3, q_i h), (4, q_i u)] [] (KC, S) (q_ev (some (q_i (s_grantV (S 151) a b h u))) (KC, s_grantS S a b h u))
  have rw0 := s_rows_b ok
  refine q_aloadn (pc' := 1) 0 dX9_grant_0 rfl rfl ?_
  refine q_iloadn (pc' := 2) 1 dX9_grant_1 rfl rfl ?_
  refine q_iloadn (pc' := 3) 2 dX9_grant_2 rfl rfl ?_
  refine q_iloadn (pc' := 4) 3 dX9_grant_3 rfl rfl ?_
  refine q_iload (pc' := 6) 4 dX9_grant_4 rfl rfl ?_
  refine q_callVI (pc' := 9) dX9_grant_6 rfl lX9_114 iX9_whyNotGranted kc150 rfl (c_X9_whyNotGranted (by first | assumption | (rw [s_rec_151]; assumption) | omega) (by first | assumption | (rw [s_rec_151]; assumption) | omega) (by first | assumption | (rw [s_rec_151]; assumption) | omega) (by first | assumption | (rw [s_rec_151]; assumption) | omega) (by first | assumption | (rw [s_rec_151]; assumption) | omega)) rfl rfl (Nat.le_of_ble_eq_true rfl) (Nat.le_of_ble_eq_true rfl) (Nat.le_of_ble_eq_true rfl) ?_
  refine q_istore (pc' := 11) (L' := [(5, q_i (s_wGrant (S 151) a b h u)), (0, q_r Γ 150), (1, q_i a), (2, q_i b), (3, q_i h), (4, q_i u)]) dX9_grant_9 rfl (by decide) rfl ?_
  have hw : s_wGrant (S 151) a b h u = -1 ∨ s_wGrant (S 151) a b h u = -2 ∨ (s_wGrant (S 151) a b h u = 0 ∧ (0 ≤ a ∧ a < S 151 0) ∧ (0 ≤ b ∧ b < S 151 0) ∧ (0 ≤ h ∧ h < 10) ∧ (0 ≤ u ∧ u ≤ 999)) := by unfold s_wGrant; omega
  refine q_iload (pc' := 13) 0 dX9_grant_11 rfl rfl ?_
  refine q_if_ge (tgt := 19) (pc' := 16) dX9_grant_13 rfl rfl (by first | assumption | (rw [s_rec_151]; assumption) | omega) (fun qc_13 => ?_) (fun qc_13 => ?_)
  · refine q_aloadn (pc' := 20) 1 dX9_grant_19 rfl rfl ?_
    refine q_callVV (pc' := 23) dX9_grant_20 rfl lX9_99 iX9_record kc150 rfl (c_X9_record (by first | assumption | (rw [s_rec_151]; assumption) | omega) (by first | assumption | (rw [s_rec_151]; assumption) | omega)) rfl rfl (Nat.le_of_ble_eq_true rfl) (Nat.le_of_ble_eq_true rfl) (Nat.le_of_ble_eq_true rfl) ?_
    refine q_aloadn (pc' := 24) 1 dX9_grant_23 rfl rfl ?_
    refine q_iloadn (pc' := 25) 2 dX9_grant_24 rfl rfl ?_
    refine q_iloadn (pc' := 26) 3 dX9_grant_25 rfl rfl ?_
    refine q_iloadn (pc' := 27) 4 dX9_grant_26 rfl rfl ?_
    refine q_callVI (pc' := 30) dX9_grant_27 rfl lX9_58 iX9_rightOf kc150 rfl (c_X9_rightOf (by first | assumption | (rw [s_rec_151]; assumption) | omega) (by first | assumption | (rw [s_rec_151]; assumption) | omega)) rfl rfl (Nat.le_of_ble_eq_true rfl) (Nat.le_of_ble_eq_true rfl) (Nat.le_of_ble_eq_true rfl) ?_
    refine q_istore (pc' := 32) (L' := [(6, q_i (s_rt ((s_rec S) 151) a b h)), (5, q_i (s_wGrant (S 151) a b h u)), (0, q_r Γ 150), (1, q_i a), (2, q_i b), (3, q_i h), (4, q_i u)]) dX9_grant_30 rfl (by decide) rfl ?_
    refine q_aloadn (pc' := 33) 2 dX9_grant_32 rfl rfl ?_
    refine q_iloadn (pc' := 34) 3 dX9_grant_33 rfl rfl ?_
    refine q_iloadn (pc' := 35) 4 dX9_grant_34 rfl rfl ?_
    refine q_iloadn (pc' := 36) 5 dX9_grant_35 rfl rfl ?_
    refine q_iload (pc' := 38) 6 dX9_grant_36 rfl rfl ?_
    refine q_callVV (pc' := 41) dX9_grant_38 rfl lX9_117 iX9_setRight kc150 rfl (c_X9_setRight (by first | assumption | (rw [s_rec_151]; assumption) | omega) (by first | assumption | (rw [s_rec_151]; assumption) | omega) (by first | assumption | (rw [s_rec_151]; assumption) | omega) (by first | assumption | (rw [s_rec_151]; assumption) | omega) (by first | assumption | (rw [s_rec_151]; assumption) | omega) (by first | assumption | (rw [s_rec_151]; assumption) | omega) (by first | assumption | (rw [s_rec_151]; assumption) | omega)) rfl rfl (Nat.le_of_ble_eq_true rfl) (Nat.le_of_ble_eq_true rfl) (Nat.le_of_ble_eq_true rfl) ?_
    refine q_iload (pc' := 43) 0 dX9_grant_41 rfl rfl ?_
    refine p_iret dX9_grant_43 rfl ?_ ?_
    · (try rw [s_rec_151]); unfold s_grantV; first | (rw [if_pos (by omega)]; done) | (rw [if_neg (by omega)]; done)
    · unfold s_grantS; first | rw [if_pos (by omega)] | rw [if_neg (by omega)]
  · refine q_iload (pc' := 18) 0 dX9_grant_16 rfl rfl ?_
    refine p_iret dX9_grant_18 rfl ?_ ?_
    · (try rw [s_rec_151]); unfold s_grantV; first | (rw [if_pos (by omega)]; done) | (rw [if_neg (by omega)]; done)
    · unfold s_grantS; first | rw [if_pos (by omega)] | rw [if_neg (by omega)]
set_option maxRecDepth 20000 in
set_option maxHeartbeats 4000000 in
theorem c_X9_wind {Γ : q_G} {S : q_S} {h u : Int} (ok : s_ok (S 151)) (h0 : 0 ≤ S 150 2) (h6 : S 150 2 ≤ 6) (hr : q_rg h) (ur : q_rg u) : q_Sp Γ mX9_wind 2 0 0 [q_r Γ 150, q_i h, q_i u] (KC, S) (q_ev (some (q_i (s_windV (S 151) h u))) (KC, s_windS S h u)) := by
  show q_Go Γ mX9_wind 2 0 0 0 [(0, q_r Γ 150), (1, q_i h), (2, q_i u)] [] (KC, S) (q_ev (some (q_i (s_windV (S 151) h u))) (KC, s_windS S h u))
  have rw0 := s_rows_b ok
  refine q_iloadn (pc' := 1) 1 dX9_wind_0 rfl rfl ?_
  refine q_callSI (pc' := 4) dX9_wind_1 rfl lX9_111 iX9_isHour (c_X9_isHour (by first | assumption | (rw [s_rec_151]; assumption) | omega)) rfl rfl (Nat.le_of_ble_eq_true rfl) (Nat.le_of_ble_eq_true rfl) (Nat.le_of_ble_eq_true rfl) ?_
  refine q_if_eq_B (tgt := 17) (pc' := 7) dX9_wind_4 rfl rfl (fun qc_4 => ?_) (fun qc_4 => ?_)
  · refine q_iloadn (pc' := 18) 1 dX9_wind_17 rfl rfl ?_
    refine q_callSI (pc' := 21) dX9_wind_18 rfl lX9_111 iX9_isHour (c_X9_isHour (by first | assumption | (rw [s_rec_151]; assumption) | omega)) rfl rfl (Nat.le_of_ble_eq_true rfl) (Nat.le_of_ble_eq_true rfl) (Nat.le_of_ble_eq_true rfl) ?_
    refine q_if_eq_B (tgt := 29) (pc' := 24) dX9_wind_21 rfl rfl (fun qc_21 => ?_) (fun qc_21 => ?_)
    · refine q_iconst (pc' := 30) dX9_wind_29 rfl ?_
      refine p_iret dX9_wind_30 rfl ?_ ?_
      · unfold s_windV s_wWind; first | (rw [eqnone_, s_rec_151]; omega) | omega
      · unfold s_windS s_wWind; first | (rw [if_pos (by omega)]; done) | (rw [if_neg (by omega)]; done)
    · refine q_bipush (pc' := 26) dX9_wind_24 rfl rfl ?_
      refine q_goto (pc' := 30) dX9_wind_26 rfl ?_
      refine p_iret dX9_wind_30 rfl ?_ ?_
      · unfold s_windV s_wWind; first | (rw [eqnone_, s_rec_151]; omega) | omega
      · unfold s_windS s_wWind; first | (rw [if_pos (by omega)]; done) | (rw [if_neg (by omega)]; done)
  · refine q_iloadn (pc' := 8) 2 dX9_wind_7 rfl rfl ?_
    refine q_iconst (pc' := 9) dX9_wind_8 rfl ?_
    refine q_bipush (pc' := 11) dX9_wind_9 rfl rfl ?_
    refine q_callSI (pc' := 14) dX9_wind_11 rfl lX9_42 iX9_within (c_X9_within (by first | assumption | (rw [s_rec_151]; assumption) | omega) (by first | assumption | (rw [s_rec_151]; assumption) | omega) (by first | assumption | (rw [s_rec_151]; assumption) | omega)) rfl rfl (Nat.le_of_ble_eq_true rfl) (Nat.le_of_ble_eq_true rfl) (Nat.le_of_ble_eq_true rfl) ?_
    refine q_if_ne_B (tgt := 31) (pc' := 17) dX9_wind_14 rfl rfl (fun qc_14 => ?_) (fun qc_14 => ?_)
    · refine q_aloadn (pc' := 32) 0 dX9_wind_31 rfl rfl ?_
      refine q_callVV (pc' := 35) dX9_wind_32 rfl lX9_99 iX9_record kc150 rfl (c_X9_record (by first | assumption | (rw [s_rec_151]; assumption) | omega) (by first | assumption | (rw [s_rec_151]; assumption) | omega)) rfl rfl (Nat.le_of_ble_eq_true rfl) (Nat.le_of_ble_eq_true rfl) (Nat.le_of_ble_eq_true rfl) ?_
      refine q_aloadn (pc' := 36) 0 dX9_wind_35 rfl rfl ?_
      refine p_getR (pc' := 39) (f := 151) dX9_wind_36 rfl fX9_7 kc150 rfl ?_
      refine q_iconst (pc' := 40) dX9_wind_39 rfl ?_
      refine q_iloadn (pc' := 41) 1 dX9_wind_40 rfl rfl ?_
      refine q_iadd (pc' := 42) dX9_wind_41 rfl ?_
      refine p_iald (pc' := 43) dX9_wind_42 rfl kc151 (by first | assumption | (rw [s_rec_151]; assumption) | omega) (by first | assumption | (rw [s_rec_151]; assumption) | omega) (by decide) (fun qy_42 eqy_42 rqy_42 => ?_)
      refine q_istoren (pc' := 44) (L' := [(3, q_i qy_42), (0, q_r Γ 150), (1, q_i h), (2, q_i u)]) dX9_wind_43 rfl rfl (by decide) rfl ?_
      refine q_aloadn (pc' := 45) 1 dX9_wind_44 rfl rfl ?_
      refine p_getR (pc' := 48) (f := 151) dX9_wind_45 rfl fX9_7 kc150 rfl ?_
      refine q_iconst (pc' := 49) dX9_wind_48 rfl ?_
      refine q_iloadn (pc' := 50) 2 dX9_wind_49 rfl rfl ?_
      refine q_iadd (pc' := 51) dX9_wind_50 rfl ?_
      refine q_iloadn (pc' := 52) 3 dX9_wind_51 rfl rfl ?_
      refine p_iast (pc' := 53) dX9_wind_52 rfl kc151 (by first | assumption | (rw [s_rec_151]; assumption) | omega) (by first | assumption | (rw [s_rec_151]; assumption) | omega) (by decide) (by first | assumption | (rw [s_rec_151]; assumption) | omega) ?_
      refine q_iloadn (pc' := 54) 0 dX9_wind_53 rfl rfl ?_
      refine p_iret dX9_wind_54 rfl ?_ ?_
      · unfold s_windV s_wWind; first | (rw [eqy_42, s_rec_151]; omega) | omega
      · unfold s_windS s_wWind; first | (rw [if_pos (by omega)]; done) | (rw [if_neg (by omega)]; done)
    · refine q_iloadn (pc' := 18) 1 dX9_wind_17 rfl rfl ?_
      refine q_callSI (pc' := 21) dX9_wind_18 rfl lX9_111 iX9_isHour (c_X9_isHour (by first | assumption | (rw [s_rec_151]; assumption) | omega)) rfl rfl (Nat.le_of_ble_eq_true rfl) (Nat.le_of_ble_eq_true rfl) (Nat.le_of_ble_eq_true rfl) ?_
      refine q_if_eq_B (tgt := 29) (pc' := 24) dX9_wind_21 rfl rfl (fun qc_21_1 => ?_) (fun qc_21_1 => ?_)
      · refine q_iconst (pc' := 30) dX9_wind_29 rfl ?_
        refine p_iret dX9_wind_30 rfl ?_ ?_
        · unfold s_windV s_wWind; first | (rw [eqnone_, s_rec_151]; omega) | omega
        · unfold s_windS s_wWind; first | (rw [if_pos (by omega)]; done) | (rw [if_neg (by omega)]; done)
      · refine q_bipush (pc' := 26) dX9_wind_24 rfl rfl ?_
        refine q_goto (pc' := 30) dX9_wind_26 rfl ?_
        refine p_iret dX9_wind_30 rfl ?_ ?_
        · unfold s_windV s_wWind; first | (rw [eqnone_, s_rec_151]; omega) | omega
        · unfold s_windS s_wWind; first | (rw [if_pos (by omega)]; done) | (rw [if_neg (by omega)]; done)
set_option maxRecDepth 20000 in
set_option maxHeartbeats 4000000 in
theorem c_X9_stow {Γ : q_G} {S : q_S} {u : Int} (ok : s_ok (S 151)) (h0 : 0 ≤ S 150 2) (h6 : S 150 2 ≤ 6) (ur : q_rg u) : q_Sp Γ mX9_stow 2 0 0 [q_r Γ 150, q_i u] (KC, S) (q_ev (some (q_i (s_stowV (S 151) u))) (KC, s_stowS S u)) := by
  show q_Go Γ mX9_stow 2 0 0 0 [(0, q_r Γ 150), (1, q_i u)] [] (KC, S) (q_ev (some (q_i (s_stowV (S 151) u))) (KC, s_stowS S u))
  have rw0 := s_rows_b ok
  refine q_iloadn (pc' := 1) 1 dX9_stow_0 rfl rfl ?_
  refine q_iconst (pc' := 2) dX9_stow_1 rfl ?_
  refine q_bipush (pc' := 4) dX9_stow_2 rfl rfl ?_
  refine q_callSI (pc' := 7) dX9_stow_4 rfl lX9_42 iX9_within (c_X9_within (by first | assumption | (rw [s_rec_151]; assumption) | omega) (by first | assumption | (rw [s_rec_151]; assumption) | omega) (by first | assumption | (rw [s_rec_151]; assumption) | omega)) rfl rfl (Nat.le_of_ble_eq_true rfl) (Nat.le_of_ble_eq_true rfl) (Nat.le_of_ble_eq_true rfl) ?_
  refine q_if_ne_B (tgt := 13) (pc' := 10) dX9_stow_7 rfl rfl (fun qc_7 => ?_) (fun qc_7 => ?_)
  · refine q_aloadn (pc' := 14) 0 dX9_stow_13 rfl rfl ?_
    refine q_callVV (pc' := 17) dX9_stow_14 rfl lX9_99 iX9_record kc150 rfl (c_X9_record (by first | assumption | (rw [s_rec_151]; assumption) | omega) (by first | assumption | (rw [s_rec_151]; assumption) | omega)) rfl rfl (Nat.le_of_ble_eq_true rfl) (Nat.le_of_ble_eq_true rfl) (Nat.le_of_ble_eq_true rfl) ?_
    refine q_aloadn (pc' := 18) 0 dX9_stow_17 rfl rfl ?_
    refine p_getR (pc' := 21) (f := 151) dX9_stow_18 rfl fX9_7 kc150 rfl ?_
    refine q_iconst (pc' := 22) dX9_stow_21 rfl ?_
    refine p_iald (pc' := 23) dX9_stow_22 rfl kc151 (by first | assumption | (rw [s_rec_151]; assumption) | omega) (by first | assumption | (rw [s_rec_151]; assumption) | omega) (by decide) (fun qy_22 eqy_22 rqy_22 => ?_)
    refine q_istoren (pc' := 24) (L' := [(2, q_i qy_22), (0, q_r Γ 150), (1, q_i u)]) dX9_stow_23 rfl rfl (by decide) rfl ?_
    refine q_aloadn (pc' := 25) 1 dX9_stow_24 rfl rfl ?_
    refine p_getR (pc' := 28) (f := 151) dX9_stow_25 rfl fX9_7 kc150 rfl ?_
    refine q_iconst (pc' := 29) dX9_stow_28 rfl ?_
    refine q_iloadn (pc' := 30) 2 dX9_stow_29 rfl rfl ?_
    refine p_iast (pc' := 31) dX9_stow_30 rfl kc151 (by first | assumption | (rw [s_rec_151]; assumption) | omega) (by first | assumption | (rw [s_rec_151]; assumption) | omega) (by decide) (by first | assumption | (rw [s_rec_151]; assumption) | omega) ?_
    refine q_iloadn (pc' := 32) 0 dX9_stow_31 rfl rfl ?_
    refine p_iret dX9_stow_32 rfl ?_ ?_
    · unfold s_stowV; first | (rw [eqy_22, s_rec_151]; omega) | omega
    · unfold s_stowS; first | rw [if_pos (by omega)] | rw [if_neg (by omega)]
  · refine q_bipush (pc' := 12) dX9_stow_10 rfl rfl ?_
    refine p_iret dX9_stow_12 rfl ?_ ?_
    · unfold s_stowV; first | (rw [eqnone_, s_rec_151]; omega) | omega
    · unfold s_stowS; first | rw [if_pos (by omega)] | rw [if_neg (by omega)]
set_option maxRecDepth 20000 in
set_option maxHeartbeats 4000000 in
theorem c_X9_row {Γ : q_G} {S : q_S} {p l u : Int} (ok : s_ok (S 151)) (h0 : 0 ≤ S 150 2) (h6 : S 150 2 ≤ 6) (pr : q_rg p) (lr : q_rg l) (ur : q_rg u) : q_Sp Γ mX9_row 2 0 0 [q_r Γ 150, q_i p, q_i l, q_i u] (KC, S) (q_ev (some (q_i (s_rowV (S 151) p l u))) (KC, s_rowS S p l u)) := by
  show q_Go Γ mX9_row 2 0 0 0 [(0, q_r Γ 150), (1, q_i p), (2, q_i l), (3, q_i u)] [] (KC, S) (q_ev (some (q_i (s_rowV (S 151) p l u))) (KC, s_rowS S p l u))
  have rw0 := s_rows_b ok
  refine q_iloadn (pc' := 1) 1 dX9_row_0 rfl rfl ?_
  refine q_iconst (pc' := 2) dX9_row_1 rfl ?_
  refine q_sipush (pc' := 5) dX9_row_2 rfl rfl ?_
  refine q_callSI (pc' := 8) dX9_row_5 rfl lX9_42 iX9_within (c_X9_within (by first | assumption | (rw [s_rec_151]; assumption) | omega) (by first | assumption | (rw [s_rec_151]; assumption) | omega) (by first | assumption | (rw [s_rec_151]; assumption) | omega)) rfl rfl (Nat.le_of_ble_eq_true rfl) (Nat.le_of_ble_eq_true rfl) (Nat.le_of_ble_eq_true rfl) ?_
  refine q_if_eq_B (tgt := 30) (pc' := 11) dX9_row_8 rfl rfl (fun qc_8 => ?_) (fun qc_8 => ?_)
  · have hv : s_rowV (S 151) p l u = -2 := by unfold s_rowV; rw [if_pos (by omega)]
    refine q_bipush (pc' := 32) dX9_row_30 rfl rfl ?_
    refine p_iret dX9_row_32 rfl ?_ ?_
    · omega
    · first | (unfold s_rowS; rw [if_pos (by omega)]; done) | (rw [show s_rowS S p l u = s_built (s_rec S) (S 151 0) p l u from if_neg (by omega), ← e67]; unfold s_built; rw [e136])
  · refine q_iloadn (pc' := 12) 2 dX9_row_11 rfl rfl ?_
    refine q_iconst (pc' := 13) dX9_row_12 rfl ?_
    refine q_bipush (pc' := 15) dX9_row_13 rfl rfl ?_
    refine q_callSI (pc' := 18) dX9_row_15 rfl lX9_42 iX9_within (c_X9_within (by first | assumption | (rw [s_rec_151]; assumption) | omega) (by first | assumption | (rw [s_rec_151]; assumption) | omega) (by first | assumption | (rw [s_rec_151]; assumption) | omega)) rfl rfl (Nat.le_of_ble_eq_true rfl) (Nat.le_of_ble_eq_true rfl) (Nat.le_of_ble_eq_true rfl) ?_
    refine q_if_eq_B (tgt := 30) (pc' := 21) dX9_row_18 rfl rfl (fun qc_18 => ?_) (fun qc_18 => ?_)
    · have hv : s_rowV (S 151) p l u = -2 := by unfold s_rowV; rw [if_pos (by omega)]
      refine q_bipush (pc' := 32) dX9_row_30 rfl rfl ?_
      refine p_iret dX9_row_32 rfl ?_ ?_
      · omega
      · first | (unfold s_rowS; rw [if_pos (by omega)]; done) | (rw [show s_rowS S p l u = s_built (s_rec S) (S 151 0) p l u from if_neg (by omega), ← e67]; unfold s_built; rw [e136])
    · refine q_iloadn (pc' := 22) 3 dX9_row_21 rfl rfl ?_
      refine q_iconst (pc' := 23) dX9_row_22 rfl ?_
      refine q_iconst (pc' := 24) dX9_row_23 rfl ?_
      refine q_callSI (pc' := 27) dX9_row_24 rfl lX9_42 iX9_within (c_X9_within (by first | assumption | (rw [s_rec_151]; assumption) | omega) (by first | assumption | (rw [s_rec_151]; assumption) | omega) (by first | assumption | (rw [s_rec_151]; assumption) | omega)) rfl rfl (Nat.le_of_ble_eq_true rfl) (Nat.le_of_ble_eq_true rfl) (Nat.le_of_ble_eq_true rfl) ?_
      refine q_if_ne_B (tgt := 33) (pc' := 30) dX9_row_27 rfl rfl (fun qc_27 => ?_) (fun qc_27 => ?_)
      · refine q_aloadn (pc' := 34) 0 dX9_row_33 rfl rfl ?_
        refine p_getR (pc' := 37) (f := 151) dX9_row_34 rfl fX9_7 kc150 rfl ?_
        refine q_iconst (pc' := 38) dX9_row_37 rfl ?_
        refine p_iald (pc' := 39) dX9_row_38 rfl kc151 (by first | assumption | (rw [s_rec_151]; assumption) | omega) (by first | assumption | (rw [s_rec_151]; assumption) | omega) (by decide) (fun qy_38 eqy_38 rqy_38 => ?_)
        refine q_bipush (pc' := 41) dX9_row_39 rfl rfl ?_
        refine q_icmp_ne (tgt := 47) (pc' := 44) dX9_row_41 rfl rfl (by first | assumption | (rw [s_rec_151]; assumption) | omega) (by decide) (fun qc_41 => ?_) (fun qc_41 => ?_)
        · refine q_aloadn (pc' := 48) 0 dX9_row_47 rfl rfl ?_
          refine q_iloadn (pc' := 49) 1 dX9_row_48 rfl rfl ?_
          refine q_callVI (pc' := 52) dX9_row_49 rfl lX9_96 iX9_isPlaceTaken kc150 rfl (c_X9_isPlaceTaken (by first | assumption | (rw [s_rec_151]; assumption) | omega) (by first | assumption | (rw [s_rec_151]; assumption) | omega)) rfl rfl (Nat.le_of_ble_eq_true rfl) (Nat.le_of_ble_eq_true rfl) (Nat.le_of_ble_eq_true rfl) ?_
          refine q_if_eq_B (tgt := 58) (pc' := 55) dX9_row_52 rfl rfl (fun qc_52 => ?_) (fun qc_52 => ?_)
          · have hv : s_rowV (S 151) p l u = S 151 0 := by unfold s_rowV; rw [if_neg (by omega), if_neg (by omega)]; exact q_if_f qc_52
            refine q_aloadn (pc' := 59) 0 dX9_row_58 rfl rfl ?_
            refine q_callVV (pc' := 62) dX9_row_59 rfl lX9_99 iX9_record kc150 rfl (c_X9_record (by first | assumption | (rw [s_rec_151]; assumption) | omega) (by first | assumption | (rw [s_rec_151]; assumption) | omega)) rfl rfl (Nat.le_of_ble_eq_true rfl) (Nat.le_of_ble_eq_true rfl) (Nat.le_of_ble_eq_true rfl) ?_
            refine q_aloadn (pc' := 63) 0 dX9_row_62 rfl rfl ?_
            refine p_getR (pc' := 66) (f := 151) dX9_row_63 rfl fX9_7 kc150 rfl ?_
            refine q_iconst (pc' := 67) dX9_row_66 rfl ?_
            refine p_iald (pc' := 68) dX9_row_67 rfl kc151 (by first | assumption | (rw [s_rec_151]; assumption) | omega) (by first | assumption | (rw [s_rec_151]; assumption) | omega) (by decide) (fun qy_67 eqy_67 rqy_67 => ?_)
            have e67 : qy_67 = S 151 0 := by rw [eqy_67, s_rec_151]
            refine q_istore (pc' := 70) (L' := [(4, q_i qy_67), (0, q_r Γ 150), (1, q_i p), (2, q_i l), (3, q_i u)]) dX9_row_68 rfl (by decide) rfl ?_
            refine q_aloadn (pc' := 71) 1 dX9_row_70 rfl rfl ?_
            refine p_getR (pc' := 74) (f := 151) dX9_row_71 rfl fX9_7 kc150 rfl ?_
            refine q_bipush (pc' := 76) dX9_row_74 rfl rfl ?_
            refine q_iconst (pc' := 77) dX9_row_76 rfl ?_
            refine q_iload (pc' := 79) 0 dX9_row_77 rfl rfl ?_
            refine q_imul (pc' := 80) dX9_row_79 rfl ?_
            refine q_iadd (pc' := 81) dX9_row_80 rfl ?_
            refine q_iconst (pc' := 82) dX9_row_81 rfl ?_
            refine q_iadd (pc' := 83) dX9_row_82 rfl ?_
            refine q_iloadn (pc' := 84) 2 dX9_row_83 rfl rfl ?_
            refine p_iast (pc' := 85) dX9_row_84 rfl kc151 (by first | assumption | (rw [s_rec_151]; assumption) | omega) (by first | assumption | (rw [s_rec_151]; assumption) | omega) (by decide) (by first | assumption | (rw [s_rec_151]; assumption) | omega) ?_
            refine q_aloadn (pc' := 86) 1 dX9_row_85 rfl rfl ?_
            refine p_getR (pc' := 89) (f := 151) dX9_row_86 rfl fX9_7 kc150 rfl ?_
            refine q_bipush (pc' := 91) dX9_row_89 rfl rfl ?_
            refine q_iconst (pc' := 92) dX9_row_91 rfl ?_
            refine q_iload (pc' := 94) 0 dX9_row_92 rfl rfl ?_
            refine q_imul (pc' := 95) dX9_row_94 rfl ?_
            refine q_iadd (pc' := 96) dX9_row_95 rfl ?_
            refine q_iconst (pc' := 97) dX9_row_96 rfl ?_
            refine q_iadd (pc' := 98) dX9_row_97 rfl ?_
            refine q_iloadn (pc' := 99) 3 dX9_row_98 rfl rfl ?_
            refine p_iast (pc' := 100) dX9_row_99 rfl kc151 (by first | assumption | (rw [s_rec_151]; assumption) | omega) (by first | assumption | (rw [s_rec_151]; assumption) | omega) (by decide) (by first | assumption | (rw [s_rec_151]; assumption) | omega) ?_
            refine q_aloadn (pc' := 101) 1 dX9_row_100 rfl rfl ?_
            refine p_getR (pc' := 104) (f := 151) dX9_row_101 rfl fX9_7 kc150 rfl ?_
            refine q_bipush (pc' := 106) dX9_row_104 rfl rfl ?_
            refine q_iconst (pc' := 107) dX9_row_106 rfl ?_
            refine q_iload (pc' := 109) 0 dX9_row_107 rfl rfl ?_
            refine q_imul (pc' := 110) dX9_row_109 rfl ?_
            refine q_iadd (pc' := 111) dX9_row_110 rfl ?_
            refine q_iconst (pc' := 112) dX9_row_111 rfl ?_
            refine q_iadd (pc' := 113) dX9_row_112 rfl ?_
            refine q_iloadn (pc' := 114) 4 dX9_row_113 rfl rfl ?_
            refine p_iast (pc' := 115) dX9_row_114 rfl kc151 (by first | assumption | (rw [s_rec_151]; assumption) | omega) (by first | assumption | (rw [s_rec_151]; assumption) | omega) (by decide) (by first | assumption | (rw [s_rec_151]; assumption) | omega) ?_
            refine q_aloadn (pc' := 116) 1 dX9_row_115 rfl rfl ?_
            refine p_getR (pc' := 119) (f := 151) dX9_row_116 rfl fX9_7 kc150 rfl ?_
            refine q_bipush (pc' := 121) dX9_row_119 rfl rfl ?_
            refine q_iconst (pc' := 122) dX9_row_121 rfl ?_
            refine q_iload (pc' := 124) 0 dX9_row_122 rfl rfl ?_
            refine q_imul (pc' := 125) dX9_row_124 rfl ?_
            refine q_iadd (pc' := 126) dX9_row_125 rfl ?_
            refine q_iconst (pc' := 127) dX9_row_126 rfl ?_
            refine q_iadd (pc' := 128) dX9_row_127 rfl ?_
            refine q_iconst (pc' := 129) dX9_row_128 rfl ?_
            refine p_iast (pc' := 130) dX9_row_129 rfl kc151 (by first | assumption | (rw [s_rec_151]; assumption) | omega) (by first | assumption | (rw [s_rec_151]; assumption) | omega) (by decide) (by first | assumption | (rw [s_rec_151]; assumption) | omega) ?_
            refine q_aloadn (pc' := 131) 1 dX9_row_130 rfl rfl ?_
            refine p_getR (pc' := 134) (f := 151) dX9_row_131 rfl fX9_7 kc150 rfl ?_
            refine q_iconst (pc' := 135) dX9_row_134 rfl ?_
            refine q_dup2 (pc' := 136) dX9_row_135 rfl rfl rfl ?_
            refine p_iald (pc' := 137) dX9_row_136 rfl kc151 (by first | assumption | (rw [s_rec_151]; assumption) | omega) (by first | assumption | (rw [s_rec_151]; assumption) | omega) (by decide) (fun qy_136 eqy_136 rqy_136 => ?_)
            have e136 : qy_136 = qy_67 := by rw [eqy_136, q_up_nz (by omega), q_up_nz (by omega), q_up_nz (by omega), q_up_nz (by omega), s_rec_151, ← e67]
            refine q_iconst (pc' := 138) dX9_row_137 rfl ?_
            refine q_iadd (pc' := 139) dX9_row_138 rfl ?_
            refine p_iast (pc' := 140) dX9_row_139 rfl kc151 (by first | assumption | (rw [s_rec_151]; assumption) | omega) (by first | assumption | (rw [s_rec_151]; assumption) | omega) (by decide) (by first | assumption | (rw [s_rec_151]; assumption) | omega) ?_
            refine q_iload (pc' := 142) 0 dX9_row_140 rfl rfl ?_
            refine p_iret dX9_row_142 rfl ?_ ?_
            · omega
            · first | (unfold s_rowS; rw [if_pos (by omega)]; done) | (rw [show s_rowS S p l u = s_built (s_rec S) (S 151 0) p l u from if_neg (by omega), ← e67]; unfold s_built; rw [e136])
          · have hv : s_rowV (S 151) p l u = -5 := by unfold s_rowV; rw [if_neg (by omega), if_neg (by omega)]; exact q_if_t qc_52
            refine q_bipush (pc' := 57) dX9_row_55 rfl rfl ?_
            refine p_iret dX9_row_57 rfl ?_ ?_
            · omega
            · first | (unfold s_rowS; rw [if_pos (by omega)]; done) | (rw [show s_rowS S p l u = s_built (s_rec S) (S 151 0) p l u from if_neg (by omega), ← e67]; unfold s_built; rw [e136])
        · have hv : s_rowV (S 151) p l u = -4 := by unfold s_rowV; rw [if_neg (by omega), if_pos (by omega)]
          refine q_bipush (pc' := 46) dX9_row_44 rfl rfl ?_
          refine p_iret dX9_row_46 rfl ?_ ?_
          · omega
          · first | (unfold s_rowS; rw [if_pos (by omega)]; done) | (rw [show s_rowS S p l u = s_built (s_rec S) (S 151 0) p l u from if_neg (by omega), ← e67]; unfold s_built; rw [e136])
      · have hv : s_rowV (S 151) p l u = -2 := by unfold s_rowV; rw [if_pos (by omega)]
        refine q_bipush (pc' := 32) dX9_row_30 rfl rfl ?_
        refine p_iret dX9_row_32 rfl ?_ ?_
        · omega
        · first | (unfold s_rowS; rw [if_pos (by omega)]; done) | (rw [show s_rowS S p l u = s_built (s_rec S) (S 151 0) p l u from if_neg (by omega), ← e67]; unfold s_built; rw [e136])
set_option maxRecDepth 20000 in
set_option maxHeartbeats 4000000 in
theorem c_X9_asked {Γ : q_G} {S : q_S} {a h u p : Int} (n0 : 0 ≤ S 151 3) (n1 : S 151 3 < 10) (ar : q_rg a) (hr : q_rg h) (ur : q_rg u) (pr : q_rg p) : q_Sp Γ mX9_asked 0 0 0 [q_r Γ 150, q_i a, q_i h, q_i u, q_i p] (KC, S) (q_ev (some (q_i (S 151 3 + 1))) (KC, s_asked S a h u p)) := by
  show q_Go Γ mX9_asked 0 0 0 0 [(0, q_r Γ 150), (1, q_i a), (2, q_i h), (3, q_i u), (4, q_i p)] [] (KC, S) (q_ev (some (q_i (S 151 3 + 1))) (KC, s_asked S a h u p))
  refine q_sipush (pc' := 3) dX9_asked_0 rfl rfl ?_
  refine q_iconst (pc' := 4) dX9_asked_3 rfl ?_
  refine q_aloadn (pc' := 5) 0 dX9_asked_4 rfl rfl ?_
  refine p_getR (pc' := 8) (f := 151) dX9_asked_5 rfl fX9_7 kc150 rfl ?_
  refine q_iconst (pc' := 9) dX9_asked_8 rfl ?_
  refine p_iald (pc' := 10) dX9_asked_9 rfl kc151 (by first | assumption | omega) (by first | assumption | omega) (by decide) (fun qy_9 eqy_9 rqy_9 => ?_)
  refine q_imul (pc' := 11) dX9_asked_10 rfl ?_
  refine q_iadd (pc' := 12) dX9_asked_11 rfl ?_
  refine q_istore (pc' := 14) (L' := [(5, q_i (399 + (4 * qy_9))), (0, q_r Γ 150), (1, q_i a), (2, q_i h), (3, q_i u), (4, q_i p)]) dX9_asked_12 rfl (by decide) rfl ?_
  refine q_aloadn (pc' := 15) 1 dX9_asked_14 rfl rfl ?_
  refine p_getR (pc' := 18) (f := 151) dX9_asked_15 rfl fX9_7 kc150 rfl ?_
  refine q_iload (pc' := 20) 0 dX9_asked_18 rfl rfl ?_
  refine q_iconst (pc' := 21) dX9_asked_20 rfl ?_
  refine q_iadd (pc' := 22) dX9_asked_21 rfl ?_
  refine q_iloadn (pc' := 23) 2 dX9_asked_22 rfl rfl ?_
  refine p_iast (pc' := 24) dX9_asked_23 rfl kc151 (by first | assumption | omega) (by first | assumption | omega) (by decide) (by first | assumption | omega) ?_
  refine q_aloadn (pc' := 25) 1 dX9_asked_24 rfl rfl ?_
  refine p_getR (pc' := 28) (f := 151) dX9_asked_25 rfl fX9_7 kc150 rfl ?_
  refine q_iload (pc' := 30) 0 dX9_asked_28 rfl rfl ?_
  refine q_iconst (pc' := 31) dX9_asked_30 rfl ?_
  refine q_iadd (pc' := 32) dX9_asked_31 rfl ?_
  refine q_iloadn (pc' := 33) 3 dX9_asked_32 rfl rfl ?_
  refine p_iast (pc' := 34) dX9_asked_33 rfl kc151 (by first | assumption | omega) (by first | assumption | omega) (by decide) (by first | assumption | omega) ?_
  refine q_aloadn (pc' := 35) 1 dX9_asked_34 rfl rfl ?_
  refine p_getR (pc' := 38) (f := 151) dX9_asked_35 rfl fX9_7 kc150 rfl ?_
  refine q_iload (pc' := 40) 0 dX9_asked_38 rfl rfl ?_
  refine q_iconst (pc' := 41) dX9_asked_40 rfl ?_
  refine q_iadd (pc' := 42) dX9_asked_41 rfl ?_
  refine q_iloadn (pc' := 43) 4 dX9_asked_42 rfl rfl ?_
  refine p_iast (pc' := 44) dX9_asked_43 rfl kc151 (by first | assumption | omega) (by first | assumption | omega) (by decide) (by first | assumption | omega) ?_
  refine q_aloadn (pc' := 45) 1 dX9_asked_44 rfl rfl ?_
  refine p_getR (pc' := 48) (f := 151) dX9_asked_45 rfl fX9_7 kc150 rfl ?_
  refine q_iload (pc' := 50) 0 dX9_asked_48 rfl rfl ?_
  refine q_iconst (pc' := 51) dX9_asked_50 rfl ?_
  refine q_iadd (pc' := 52) dX9_asked_51 rfl ?_
  refine q_iload (pc' := 54) 5 dX9_asked_52 rfl rfl ?_
  refine p_iast (pc' := 55) dX9_asked_54 rfl kc151 (by first | assumption | omega) (by first | assumption | omega) (by decide) (by first | assumption | omega) ?_
  refine q_aloadn (pc' := 56) 1 dX9_asked_55 rfl rfl ?_
  refine p_getR (pc' := 59) (f := 151) dX9_asked_56 rfl fX9_7 kc150 rfl ?_
  refine q_iconst (pc' := 60) dX9_asked_59 rfl ?_
  refine q_dup2 (pc' := 61) dX9_asked_60 rfl rfl rfl ?_
  refine p_iald (pc' := 62) dX9_asked_61 rfl kc151 (by first | assumption | omega) (by first | assumption | omega) (by decide) (fun qy_61 eqy_61 rqy_61 => ?_)
  have e61 : qy_61 = S 151 3 := by rw [eqy_61, q_up_nz (by omega), q_up_nz (by omega), q_up_nz (by omega), q_up_nz (by omega)]
  refine q_iconst (pc' := 63) dX9_asked_62 rfl ?_
  refine q_iadd (pc' := 64) dX9_asked_63 rfl ?_
  refine p_iast (pc' := 65) dX9_asked_64 rfl kc151 (by first | assumption | omega) (by first | assumption | omega) (by decide) (by first | assumption | omega) ?_
  refine q_aloadn (pc' := 66) 1 dX9_asked_65 rfl rfl ?_
  refine p_getR (pc' := 69) (f := 151) dX9_asked_66 rfl fX9_7 kc150 rfl ?_
  refine q_iconst (pc' := 70) dX9_asked_69 rfl ?_
  refine p_iald (pc' := 71) dX9_asked_70 rfl kc151 (by first | assumption | omega) (by first | assumption | omega) (by decide) (fun qy_70 eqy_70 rqy_70 => ?_)
  refine p_iret dX9_asked_71 rfl ?_ ?_
  · rw [eqy_70, q_up_eq]; omega
  · unfold s_asked; rw [← eqy_9, e61, ← eqy_9]
set_option maxRecDepth 20000 in
set_option maxHeartbeats 4000000 in
theorem c_X9_bought {Γ : q_G} {S : q_S} {b a h u p : Int} (n0 : 0 ≤ S 151 4) (n1 : S 151 4 < 10) (br : q_rg b) (ar : q_rg a) (hr : q_rg h) (ur : q_rg u) (pr : q_rg p) : q_Sp Γ mX9_bought 0 0 0 [q_r Γ 150, q_i b, q_i a, q_i h, q_i u, q_i p] (KC, S) (q_ev (some (q_i (S 151 4 + 1))) (KC, s_bought S b a h u p)) := by
  show q_Go Γ mX9_bought 0 0 0 0 [(0, q_r Γ 150), (1, q_i b), (2, q_i a), (3, q_i h), (4, q_i u), (5, q_i p)] [] (KC, S) (q_ev (some (q_i (S 151 4 + 1))) (KC, s_bought S b a h u p))
  refine q_sipush (pc' := 3) dX9_bought_0 rfl rfl ?_
  refine q_iconst (pc' := 4) dX9_bought_3 rfl ?_
  refine q_aloadn (pc' := 5) 0 dX9_bought_4 rfl rfl ?_
  refine p_getR (pc' := 8) (f := 151) dX9_bought_5 rfl fX9_7 kc150 rfl ?_
  refine q_iconst (pc' := 9) dX9_bought_8 rfl ?_
  refine p_iald (pc' := 10) dX9_bought_9 rfl kc151 (by first | assumption | omega) (by first | assumption | omega) (by decide) (fun qy_9 eqy_9 rqy_9 => ?_)
  refine q_imul (pc' := 11) dX9_bought_10 rfl ?_
  refine q_iadd (pc' := 12) dX9_bought_11 rfl ?_
  refine q_istore (pc' := 14) (L' := [(6, q_i (439 + (5 * qy_9))), (0, q_r Γ 150), (1, q_i b), (2, q_i a), (3, q_i h), (4, q_i u), (5, q_i p)]) dX9_bought_12 rfl (by decide) rfl ?_
  refine q_aloadn (pc' := 15) 1 dX9_bought_14 rfl rfl ?_
  refine p_getR (pc' := 18) (f := 151) dX9_bought_15 rfl fX9_7 kc150 rfl ?_
  refine q_iload (pc' := 20) 0 dX9_bought_18 rfl rfl ?_
  refine q_iconst (pc' := 21) dX9_bought_20 rfl ?_
  refine q_iadd (pc' := 22) dX9_bought_21 rfl ?_
  refine q_iloadn (pc' := 23) 3 dX9_bought_22 rfl rfl ?_
  refine p_iast (pc' := 24) dX9_bought_23 rfl kc151 (by first | assumption | omega) (by first | assumption | omega) (by decide) (by first | assumption | omega) ?_
  refine q_aloadn (pc' := 25) 1 dX9_bought_24 rfl rfl ?_
  refine p_getR (pc' := 28) (f := 151) dX9_bought_25 rfl fX9_7 kc150 rfl ?_
  refine q_iload (pc' := 30) 0 dX9_bought_28 rfl rfl ?_
  refine q_iconst (pc' := 31) dX9_bought_30 rfl ?_
  refine q_iadd (pc' := 32) dX9_bought_31 rfl ?_
  refine q_iloadn (pc' := 33) 4 dX9_bought_32 rfl rfl ?_
  refine p_iast (pc' := 34) dX9_bought_33 rfl kc151 (by first | assumption | omega) (by first | assumption | omega) (by decide) (by first | assumption | omega) ?_
  refine q_aloadn (pc' := 35) 1 dX9_bought_34 rfl rfl ?_
  refine p_getR (pc' := 38) (f := 151) dX9_bought_35 rfl fX9_7 kc150 rfl ?_
  refine q_iload (pc' := 40) 0 dX9_bought_38 rfl rfl ?_
  refine q_iconst (pc' := 41) dX9_bought_40 rfl ?_
  refine q_iadd (pc' := 42) dX9_bought_41 rfl ?_
  refine q_iload (pc' := 44) 5 dX9_bought_42 rfl rfl ?_
  refine p_iast (pc' := 45) dX9_bought_44 rfl kc151 (by first | assumption | omega) (by first | assumption | omega) (by decide) (by first | assumption | omega) ?_
  refine q_aloadn (pc' := 46) 1 dX9_bought_45 rfl rfl ?_
  refine p_getR (pc' := 49) (f := 151) dX9_bought_46 rfl fX9_7 kc150 rfl ?_
  refine q_iload (pc' := 51) 0 dX9_bought_49 rfl rfl ?_
  refine q_iconst (pc' := 52) dX9_bought_51 rfl ?_
  refine q_iadd (pc' := 53) dX9_bought_52 rfl ?_
  refine q_iload (pc' := 55) 6 dX9_bought_53 rfl rfl ?_
  refine p_iast (pc' := 56) dX9_bought_55 rfl kc151 (by first | assumption | omega) (by first | assumption | omega) (by decide) (by first | assumption | omega) ?_
  refine q_aloadn (pc' := 57) 1 dX9_bought_56 rfl rfl ?_
  refine p_getR (pc' := 60) (f := 151) dX9_bought_57 rfl fX9_7 kc150 rfl ?_
  refine q_iload (pc' := 62) 0 dX9_bought_60 rfl rfl ?_
  refine q_iconst (pc' := 63) dX9_bought_62 rfl ?_
  refine q_iadd (pc' := 64) dX9_bought_63 rfl ?_
  refine q_iloadn (pc' := 65) 2 dX9_bought_64 rfl rfl ?_
  refine p_iast (pc' := 66) dX9_bought_65 rfl kc151 (by first | assumption | omega) (by first | assumption | omega) (by decide) (by first | assumption | omega) ?_
  refine q_aloadn (pc' := 67) 1 dX9_bought_66 rfl rfl ?_
  refine p_getR (pc' := 70) (f := 151) dX9_bought_67 rfl fX9_7 kc150 rfl ?_
  refine q_iconst (pc' := 71) dX9_bought_70 rfl ?_
  refine q_dup2 (pc' := 72) dX9_bought_71 rfl rfl rfl ?_
  refine p_iald (pc' := 73) dX9_bought_72 rfl kc151 (by first | assumption | omega) (by first | assumption | omega) (by decide) (fun qy_72 eqy_72 rqy_72 => ?_)
  have e72 : qy_72 = S 151 4 := by rw [eqy_72, q_up_nz (by omega), q_up_nz (by omega), q_up_nz (by omega), q_up_nz (by omega), q_up_nz (by omega)]
  refine q_iconst (pc' := 74) dX9_bought_73 rfl ?_
  refine q_iadd (pc' := 75) dX9_bought_74 rfl ?_
  refine p_iast (pc' := 76) dX9_bought_75 rfl kc151 (by first | assumption | omega) (by first | assumption | omega) (by decide) (by first | assumption | omega) ?_
  refine q_aloadn (pc' := 77) 1 dX9_bought_76 rfl rfl ?_
  refine p_getR (pc' := 80) (f := 151) dX9_bought_77 rfl fX9_7 kc150 rfl ?_
  refine q_iconst (pc' := 81) dX9_bought_80 rfl ?_
  refine p_iald (pc' := 82) dX9_bought_81 rfl kc151 (by first | assumption | omega) (by first | assumption | omega) (by decide) (fun qy_81 eqy_81 rqy_81 => ?_)
  refine p_iret dX9_bought_82 rfl ?_ ?_
  · rw [eqy_81, q_up_eq]; omega
  · unfold s_bought; rw [← eqy_9, e72, ← eqy_9]
set_option maxRecDepth 20000 in
set_option maxHeartbeats 4000000 in
theorem c_X9_ask {Γ : q_G} {S : q_S} {a h u p : Int} (ok : s_ok (S 151)) (h0 : 0 ≤ S 150 2) (h6 : S 150 2 ≤ 6) (ar : q_rg a) (hr : q_rg h) (ur : q_rg u) (pr : q_rg p) : q_Sp Γ mX9_ask 3 0 0 [q_r Γ 150, q_i a, q_i h, q_i u, q_i p] (KC, S) (q_ev (some (q_i (s_askV (S 151) a h u p))) (KC, s_askS S a h u p)) := by
  show q_Go Γ mX9_ask 3 0 0 0 [(0, q_r Γ 150), (1, q_i a), (2, q_i h), (3, q_i u), (4, q_i p)] [] (KC, S) (q_ev (some (q_i (s_askV (S 151) a h u p))) (KC, s_askS S a h u p))
  have rw0 := s_rows_b ok
  refine q_aloadn (pc' := 1) 0 dX9_ask_0 rfl rfl ?_
  refine q_iloadn (pc' := 2) 1 dX9_ask_1 rfl rfl ?_
  refine q_iloadn (pc' := 3) 2 dX9_ask_2 rfl rfl ?_
  refine q_iloadn (pc' := 4) 3 dX9_ask_3 rfl rfl ?_
  refine q_iload (pc' := 6) 4 dX9_ask_4 rfl rfl ?_
  refine q_callVI (pc' := 9) dX9_ask_6 rfl lX9_125 iX9_whyNotAsked kc150 rfl (c_X9_whyNotAsked (by first | assumption | (rw [s_rec_151]; assumption) | omega) (by first | assumption | (rw [s_rec_151]; assumption) | omega) (by first | assumption | (rw [s_rec_151]; assumption) | omega) (by first | assumption | (rw [s_rec_151]; assumption) | omega) (by first | assumption | (rw [s_rec_151]; assumption) | omega)) rfl rfl (Nat.le_of_ble_eq_true rfl) (Nat.le_of_ble_eq_true rfl) (Nat.le_of_ble_eq_true rfl) ?_
  refine q_istore (pc' := 11) (L' := [(5, q_i (s_wAsk (S 151) a h u p)), (0, q_r Γ 150), (1, q_i a), (2, q_i h), (3, q_i u), (4, q_i p)]) dX9_ask_9 rfl (by decide) rfl ?_
  have hw : s_wAsk (S 151) a h u p < 0 ∨ (s_wAsk (S 151) a h u p = 0 ∧ S 151 3 ≠ 10) := by unfold s_wAsk; omega
  have hq : -4 ≤ s_wAsk (S 151) a h u p ∧ s_wAsk (S 151) a h u p ≤ 0 := by unfold s_wAsk; omega
  have hc := ok.2.2.1
  have h151 := s_rec_151 (S := S)
  refine q_iload (pc' := 13) 0 dX9_ask_11 rfl rfl ?_
  refine q_if_ge (tgt := 19) (pc' := 16) dX9_ask_13 rfl rfl (by first | assumption | (rw [s_rec_151]; assumption) | omega) (fun qc_13 => ?_) (fun qc_13 => ?_)
  · refine q_aloadn (pc' := 20) 1 dX9_ask_19 rfl rfl ?_
    refine q_callVV (pc' := 23) dX9_ask_20 rfl lX9_99 iX9_record kc150 rfl (c_X9_record (by first | assumption | (rw [s_rec_151]; assumption) | omega) (by first | assumption | (rw [s_rec_151]; assumption) | omega)) rfl rfl (Nat.le_of_ble_eq_true rfl) (Nat.le_of_ble_eq_true rfl) (Nat.le_of_ble_eq_true rfl) ?_
    refine q_aloadn (pc' := 24) 1 dX9_ask_23 rfl rfl ?_
    refine q_iloadn (pc' := 25) 2 dX9_ask_24 rfl rfl ?_
    refine q_iloadn (pc' := 26) 3 dX9_ask_25 rfl rfl ?_
    refine q_iloadn (pc' := 27) 4 dX9_ask_26 rfl rfl ?_
    refine q_iload (pc' := 29) 5 dX9_ask_27 rfl rfl ?_
    have h3 : 0 ≤ s_rec S 151 3 ∧ s_rec S 151 3 < 10 := by rw [s_rec_151]; omega
    refine q_callVI (pc' := 32) dX9_ask_29 rfl lX9_128 iX9_asked kc150 rfl (c_X9_asked (by first | assumption | (rw [s_rec_151]; assumption) | omega) (by first | assumption | (rw [s_rec_151]; assumption) | omega) (by first | assumption | (rw [s_rec_151]; assumption) | omega) (by first | assumption | (rw [s_rec_151]; assumption) | omega) (by first | assumption | (rw [s_rec_151]; assumption) | omega) (by first | assumption | (rw [s_rec_151]; assumption) | omega)) rfl rfl (Nat.le_of_ble_eq_true rfl) (Nat.le_of_ble_eq_true rfl) (Nat.le_of_ble_eq_true rfl) ?_
    refine p_iret dX9_ask_32 rfl ?_ ?_
    · first | (rw [s_rec_151]; unfold s_askV; rw [if_neg (by omega)]) | (unfold s_askV; rw [if_pos (by omega)])
    · unfold s_askS; first | rw [if_pos (by omega)] | rw [if_neg (by omega)]
  · refine q_iload (pc' := 18) 0 dX9_ask_16 rfl rfl ?_
    refine p_iret dX9_ask_18 rfl ?_ ?_
    · first | (rw [s_rec_151]; unfold s_askV; rw [if_neg (by omega)]) | (unfold s_askV; rw [if_pos (by omega)])
    · unfold s_askS; first | rw [if_pos (by omega)] | rw [if_neg (by omega)]
set_option maxRecDepth 20000 in
set_option maxHeartbeats 4000000 in
theorem c_X9_bid {Γ : q_G} {S : q_S} {b a h u p : Int} (ok : s_ok (S 151)) (h0 : 0 ≤ S 150 2) (h6 : S 150 2 ≤ 6) (br : q_rg b) (ar : q_rg a) (hr : q_rg h) (ur : q_rg u) (pr : q_rg p) : q_Sp Γ mX9_bid 3 0 0 [q_r Γ 150, q_i b, q_i a, q_i h, q_i u, q_i p] (KC, S) (q_ev (some (q_i (s_bidV (S 151) b a h u p))) (KC, s_bidS S b a h u p)) := by
  show q_Go Γ mX9_bid 3 0 0 0 [(0, q_r Γ 150), (1, q_i b), (2, q_i a), (3, q_i h), (4, q_i u), (5, q_i p)] [] (KC, S) (q_ev (some (q_i (s_bidV (S 151) b a h u p))) (KC, s_bidS S b a h u p))
  have rw0 := s_rows_b ok
  refine q_aloadn (pc' := 1) 0 dX9_bid_0 rfl rfl ?_
  refine q_iloadn (pc' := 2) 1 dX9_bid_1 rfl rfl ?_
  refine q_iloadn (pc' := 3) 2 dX9_bid_2 rfl rfl ?_
  refine q_iloadn (pc' := 4) 3 dX9_bid_3 rfl rfl ?_
  refine q_iload (pc' := 6) 4 dX9_bid_4 rfl rfl ?_
  refine q_iload (pc' := 8) 5 dX9_bid_6 rfl rfl ?_
  refine q_callVI (pc' := 11) dX9_bid_8 rfl lX9_131 iX9_whyNotBid kc150 rfl (c_X9_whyNotBid (by first | assumption | (rw [s_rec_151]; assumption) | omega) (by first | assumption | (rw [s_rec_151]; assumption) | omega) (by first | assumption | (rw [s_rec_151]; assumption) | omega) (by first | assumption | (rw [s_rec_151]; assumption) | omega) (by first | assumption | (rw [s_rec_151]; assumption) | omega) (by first | assumption | (rw [s_rec_151]; assumption) | omega)) rfl rfl (Nat.le_of_ble_eq_true rfl) (Nat.le_of_ble_eq_true rfl) (Nat.le_of_ble_eq_true rfl) ?_
  refine q_istore (pc' := 13) (L' := [(6, q_i (s_wBid (S 151) b a h u p)), (0, q_r Γ 150), (1, q_i b), (2, q_i a), (3, q_i h), (4, q_i u), (5, q_i p)]) dX9_bid_11 rfl (by decide) rfl ?_
  have hw : s_wBid (S 151) b a h u p < 0 ∨ (s_wBid (S 151) b a h u p = 0 ∧ S 151 4 ≠ 10) := by unfold s_wBid; omega
  have hq : -4 ≤ s_wBid (S 151) b a h u p ∧ s_wBid (S 151) b a h u p ≤ 0 := by unfold s_wBid; omega
  have hc := ok.2.2.2.1
  refine q_iload (pc' := 15) 0 dX9_bid_13 rfl rfl ?_
  refine q_if_ge (tgt := 21) (pc' := 18) dX9_bid_15 rfl rfl (by first | assumption | (rw [s_rec_151]; assumption) | omega) (fun qc_15 => ?_) (fun qc_15 => ?_)
  · refine q_aloadn (pc' := 22) 1 dX9_bid_21 rfl rfl ?_
    refine q_callVV (pc' := 25) dX9_bid_22 rfl lX9_99 iX9_record kc150 rfl (c_X9_record (by first | assumption | (rw [s_rec_151]; assumption) | omega) (by first | assumption | (rw [s_rec_151]; assumption) | omega)) rfl rfl (Nat.le_of_ble_eq_true rfl) (Nat.le_of_ble_eq_true rfl) (Nat.le_of_ble_eq_true rfl) ?_
    refine q_aloadn (pc' := 26) 1 dX9_bid_25 rfl rfl ?_
    refine q_iloadn (pc' := 27) 2 dX9_bid_26 rfl rfl ?_
    refine q_iloadn (pc' := 28) 3 dX9_bid_27 rfl rfl ?_
    refine q_iloadn (pc' := 29) 4 dX9_bid_28 rfl rfl ?_
    refine q_iload (pc' := 31) 5 dX9_bid_29 rfl rfl ?_
    refine q_iload (pc' := 33) 6 dX9_bid_31 rfl rfl ?_
    have h3 : 0 ≤ s_rec S 151 4 ∧ s_rec S 151 4 < 10 := by rw [s_rec_151]; omega
    refine q_callVI (pc' := 36) dX9_bid_33 rfl lX9_135 iX9_bought kc150 rfl (c_X9_bought (by first | assumption | (rw [s_rec_151]; assumption) | omega) (by first | assumption | (rw [s_rec_151]; assumption) | omega) (by first | assumption | (rw [s_rec_151]; assumption) | omega) (by first | assumption | (rw [s_rec_151]; assumption) | omega) (by first | assumption | (rw [s_rec_151]; assumption) | omega) (by first | assumption | (rw [s_rec_151]; assumption) | omega) (by first | assumption | (rw [s_rec_151]; assumption) | omega)) rfl rfl (Nat.le_of_ble_eq_true rfl) (Nat.le_of_ble_eq_true rfl) (Nat.le_of_ble_eq_true rfl) ?_
    refine p_iret dX9_bid_36 rfl ?_ ?_
    · first | (rw [s_rec_151]; unfold s_bidV; rw [if_neg (by omega)]) | (unfold s_bidV; rw [if_pos (by omega)])
    · unfold s_bidS; first | rw [if_pos (by omega)] | rw [if_neg (by omega)]
  · refine q_iload (pc' := 20) 0 dX9_bid_18 rfl rfl ?_
    refine p_iret dX9_bid_20 rfl ?_ ?_
    · first | (rw [s_rec_151]; unfold s_bidV; rw [if_neg (by omega)]) | (unfold s_bidV; rw [if_pos (by omega)])
    · unfold s_bidS; first | rw [if_pos (by omega)] | rw [if_neg (by omega)]
set_option maxRecDepth 20000 in
set_option maxHeartbeats 4000000 in
theorem c_X9_dropAsk {Γ : q_G} {S : q_S} {n : Int} (n0 : 0 ≤ n) (n1 : n < S 151 3) (n2 : S 151 3 ≤ 10) : q_Sp Γ mX9_dropAsk 0 0 0 [q_r Γ 150, q_i n] (KC, S) (q_ev none (KC, s_dropA S n)) := by
  show q_Go Γ mX9_dropAsk 0 0 0 0 [(0, q_r Γ 150), (1, q_i n)] [] (KC, S) (q_ev none (KC, s_dropA S n))
  refine q_sipush (pc' := 3) dX9_dropAsk_0 rfl rfl ?_
  refine q_iconst (pc' := 4) dX9_dropAsk_3 rfl ?_
  refine q_iloadn (pc' := 5) 1 dX9_dropAsk_4 rfl rfl ?_
  refine q_imul (pc' := 6) dX9_dropAsk_5 rfl ?_
  refine q_iadd (pc' := 7) dX9_dropAsk_6 rfl ?_
  refine q_istoren (pc' := 8) (L' := [(2, q_i (399 + (4 * n))), (0, q_r Γ 150), (1, q_i n)]) dX9_dropAsk_7 rfl rfl (by decide) rfl ?_
  have qlp_8 : ∀ (qn_8 : Nat) (S2 : q_S) (k : Int), (399 + 4 * n ≤ k) → (k ≤ 399 + 4 * (S 151 3 - 1)) → (S2 = q_cp S 151 151 (403 + 4 * n) (399 + 4 * n) (k - (399 + 4 * n))) → ((399 + 4 * (S 151 3 - 1) - k).toNat) = qn_8 → q_Go Γ mX9_dropAsk 0 0 0 8 [(0, q_r Γ 150), (1, q_i n), (2, q_i k)] [] (KC, S2) (q_ev none (KC, s_dropA S n)) := by
    intro qn_8
    induction qn_8 using Nat.strongRecOn with
    | ind qn_8 qih_8 =>
      intro S2 k qa_8_0 qa_8_1 qa_8_2 qhn_8
      subst qhn_8
      refine q_iloadn (pc' := 9) 2 dX9_dropAsk_8 rfl rfl ?_
      refine q_sipush (pc' := 12) dX9_dropAsk_9 rfl rfl ?_
      refine q_iconst (pc' := 13) dX9_dropAsk_12 rfl ?_
      refine q_aloadn (pc' := 14) 0 dX9_dropAsk_13 rfl rfl ?_
      refine p_getR (pc' := 17) (f := 151) dX9_dropAsk_14 rfl fX9_7 kc150 rfl ?_
      refine q_iconst (pc' := 18) dX9_dropAsk_17 rfl ?_
      refine p_iald (pc' := 19) dX9_dropAsk_18 rfl kc151 (by first | assumption | omega) (by first | assumption | omega) (by decide) (fun qy_18 eqy_18 rqy_18 => ?_)
      have e18 : qy_18 = S 151 3 := by rw [eqy_18, qa_8_2, q_cp_lo (by omega)]
      refine q_iconst (pc' := 20) dX9_dropAsk_19 rfl ?_
      refine q_isub (pc' := 21) dX9_dropAsk_20 rfl ?_
      refine q_imul (pc' := 22) dX9_dropAsk_21 rfl ?_
      refine q_iadd (pc' := 23) dX9_dropAsk_22 rfl ?_
      refine q_icmp_ge (tgt := 46) (pc' := 26) dX9_dropAsk_23 rfl rfl (by first | assumption | omega) (by first | assumption | omega) (fun qc_23 => ?_) (fun qc_23 => ?_)
      · refine q_aloadn (pc' := 47) 0 dX9_dropAsk_46 rfl rfl ?_
        refine p_getR (pc' := 50) (f := 151) dX9_dropAsk_47 rfl fX9_7 kc150 rfl ?_
        refine q_iconst (pc' := 51) dX9_dropAsk_50 rfl ?_
        refine q_dup2 (pc' := 52) dX9_dropAsk_51 rfl rfl rfl ?_
        refine p_iald (pc' := 53) dX9_dropAsk_52 rfl kc151 (by first | assumption | omega) (by first | assumption | omega) (by decide) (fun qy_52 eqy_52 rqy_52 => ?_)
        have e52 : qy_52 = S 151 3 := by rw [eqy_52, qa_8_2, q_cp_lo (by omega)]
        refine q_iconst (pc' := 54) dX9_dropAsk_53 rfl ?_
        refine q_isub (pc' := 55) dX9_dropAsk_54 rfl ?_
        refine p_iast (pc' := 56) dX9_dropAsk_55 rfl kc151 (by first | assumption | omega) (by first | assumption | omega) (by decide) (by first | assumption | omega) ?_
        refine p_vret dX9_dropAsk_56 rfl ?_
        · unfold s_dropA; rw [qa_8_2, e52, show k = 399 + 4 * (S 151 3 - 1) by omega]
      · refine q_aloadn (pc' := 27) 0 dX9_dropAsk_26 rfl rfl ?_
        refine p_getR (pc' := 30) (f := 151) dX9_dropAsk_27 rfl fX9_7 kc150 rfl ?_
        refine q_iloadn (pc' := 31) 2 dX9_dropAsk_30 rfl rfl ?_
        refine q_aloadn (pc' := 32) 0 dX9_dropAsk_31 rfl rfl ?_
        refine p_getR (pc' := 35) (f := 151) dX9_dropAsk_32 rfl fX9_7 kc150 rfl ?_
        refine q_iloadn (pc' := 36) 2 dX9_dropAsk_35 rfl rfl ?_
        refine q_iconst (pc' := 37) dX9_dropAsk_36 rfl ?_
        refine q_iadd (pc' := 38) dX9_dropAsk_37 rfl ?_
        refine p_iald (pc' := 39) dX9_dropAsk_38 rfl kc151 (by first | assumption | omega) (by first | assumption | omega) (by decide) (fun qy_38 eqy_38 rqy_38 => ?_)
        refine p_iast (pc' := 40) dX9_dropAsk_39 rfl kc151 (by first | assumption | omega) (by first | assumption | omega) (by decide) (by first | assumption | omega) ?_
        refine q_iinc (pc' := 43) 2 (L' := [(2, q_i (k + 1)), (0, q_r Γ 150), (1, q_i n)]) dX9_dropAsk_40 rfl rfl (by decide) rfl ?_
        refine q_goto (pc' := 8) dX9_dropAsk_43 rfl ?_
        refine p_sub [1, 2, 0] rfl ?_
        exact qih_8 _ (by omega) _ _ (by first | assumption | omega) (by first | assumption | omega) (by rw [eqy_38, qa_8_2, q_cp_hi (by omega)]; exact q_cp_d (by omega) (by omega)) rfl
  refine p_sub [1, 2, 0] rfl ?_
  exact qlp_8 _ _ _ (by first | assumption | omega) (by first | assumption | omega) (by rw [show 399 + 4 * n - (399 + 4 * n) = 0 by omega]; exact q_cp_0) rfl
set_option maxRecDepth 20000 in
set_option maxHeartbeats 4000000 in
theorem c_X9_dropBid {Γ : q_G} {S : q_S} {n : Int} (n0 : 0 ≤ n) (n1 : n < S 151 4) (n2 : S 151 4 ≤ 10) : q_Sp Γ mX9_dropBid 0 0 0 [q_r Γ 150, q_i n] (KC, S) (q_ev none (KC, s_dropB S n)) := by
  show q_Go Γ mX9_dropBid 0 0 0 0 [(0, q_r Γ 150), (1, q_i n)] [] (KC, S) (q_ev none (KC, s_dropB S n))
  refine q_sipush (pc' := 3) dX9_dropBid_0 rfl rfl ?_
  refine q_iconst (pc' := 4) dX9_dropBid_3 rfl ?_
  refine q_iloadn (pc' := 5) 1 dX9_dropBid_4 rfl rfl ?_
  refine q_imul (pc' := 6) dX9_dropBid_5 rfl ?_
  refine q_iadd (pc' := 7) dX9_dropBid_6 rfl ?_
  refine q_istoren (pc' := 8) (L' := [(2, q_i (439 + (5 * n))), (0, q_r Γ 150), (1, q_i n)]) dX9_dropBid_7 rfl rfl (by decide) rfl ?_
  have qlp_8 : ∀ (qn_8 : Nat) (S2 : q_S) (k : Int), (439 + 5 * n ≤ k) → (k ≤ 439 + 5 * (S 151 4 - 1)) → (S2 = q_cp S 151 151 (444 + 5 * n) (439 + 5 * n) (k - (439 + 5 * n))) → ((439 + 5 * (S 151 4 - 1) - k).toNat) = qn_8 → q_Go Γ mX9_dropBid 0 0 0 8 [(0, q_r Γ 150), (1, q_i n), (2, q_i k)] [] (KC, S2) (q_ev none (KC, s_dropB S n)) := by
    intro qn_8
    induction qn_8 using Nat.strongRecOn with
    | ind qn_8 qih_8 =>
      intro S2 k qa_8_0 qa_8_1 qa_8_2 qhn_8
      subst qhn_8
      refine q_iloadn (pc' := 9) 2 dX9_dropBid_8 rfl rfl ?_
      refine q_sipush (pc' := 12) dX9_dropBid_9 rfl rfl ?_
      refine q_iconst (pc' := 13) dX9_dropBid_12 rfl ?_
      refine q_aloadn (pc' := 14) 0 dX9_dropBid_13 rfl rfl ?_
      refine p_getR (pc' := 17) (f := 151) dX9_dropBid_14 rfl fX9_7 kc150 rfl ?_
      refine q_iconst (pc' := 18) dX9_dropBid_17 rfl ?_
      refine p_iald (pc' := 19) dX9_dropBid_18 rfl kc151 (by first | assumption | omega) (by first | assumption | omega) (by decide) (fun qy_18 eqy_18 rqy_18 => ?_)
      have e18 : qy_18 = S 151 4 := by rw [eqy_18, qa_8_2, q_cp_lo (by omega)]
      refine q_iconst (pc' := 20) dX9_dropBid_19 rfl ?_
      refine q_isub (pc' := 21) dX9_dropBid_20 rfl ?_
      refine q_imul (pc' := 22) dX9_dropBid_21 rfl ?_
      refine q_iadd (pc' := 23) dX9_dropBid_22 rfl ?_
      refine q_icmp_ge (tgt := 46) (pc' := 26) dX9_dropBid_23 rfl rfl (by first | assumption | omega) (by first | assumption | omega) (fun qc_23 => ?_) (fun qc_23 => ?_)
      · refine q_aloadn (pc' := 47) 0 dX9_dropBid_46 rfl rfl ?_
        refine p_getR (pc' := 50) (f := 151) dX9_dropBid_47 rfl fX9_7 kc150 rfl ?_
        refine q_iconst (pc' := 51) dX9_dropBid_50 rfl ?_
        refine q_dup2 (pc' := 52) dX9_dropBid_51 rfl rfl rfl ?_
        refine p_iald (pc' := 53) dX9_dropBid_52 rfl kc151 (by first | assumption | omega) (by first | assumption | omega) (by decide) (fun qy_52 eqy_52 rqy_52 => ?_)
        have e52 : qy_52 = S 151 4 := by rw [eqy_52, qa_8_2, q_cp_lo (by omega)]
        refine q_iconst (pc' := 54) dX9_dropBid_53 rfl ?_
        refine q_isub (pc' := 55) dX9_dropBid_54 rfl ?_
        refine p_iast (pc' := 56) dX9_dropBid_55 rfl kc151 (by first | assumption | omega) (by first | assumption | omega) (by decide) (by first | assumption | omega) ?_
        refine p_vret dX9_dropBid_56 rfl ?_
        · unfold s_dropB; rw [qa_8_2, e52, show k = 439 + 5 * (S 151 4 - 1) by omega]
      · refine q_aloadn (pc' := 27) 0 dX9_dropBid_26 rfl rfl ?_
        refine p_getR (pc' := 30) (f := 151) dX9_dropBid_27 rfl fX9_7 kc150 rfl ?_
        refine q_iloadn (pc' := 31) 2 dX9_dropBid_30 rfl rfl ?_
        refine q_aloadn (pc' := 32) 0 dX9_dropBid_31 rfl rfl ?_
        refine p_getR (pc' := 35) (f := 151) dX9_dropBid_32 rfl fX9_7 kc150 rfl ?_
        refine q_iloadn (pc' := 36) 2 dX9_dropBid_35 rfl rfl ?_
        refine q_iconst (pc' := 37) dX9_dropBid_36 rfl ?_
        refine q_iadd (pc' := 38) dX9_dropBid_37 rfl ?_
        refine p_iald (pc' := 39) dX9_dropBid_38 rfl kc151 (by first | assumption | omega) (by first | assumption | omega) (by decide) (fun qy_38 eqy_38 rqy_38 => ?_)
        refine p_iast (pc' := 40) dX9_dropBid_39 rfl kc151 (by first | assumption | omega) (by first | assumption | omega) (by decide) (by first | assumption | omega) ?_
        refine q_iinc (pc' := 43) 2 (L' := [(2, q_i (k + 1)), (0, q_r Γ 150), (1, q_i n)]) dX9_dropBid_40 rfl rfl (by decide) rfl ?_
        refine q_goto (pc' := 8) dX9_dropBid_43 rfl ?_
        refine p_sub [1, 2, 0] rfl ?_
        exact qih_8 _ (by omega) _ _ (by first | assumption | omega) (by first | assumption | omega) (by rw [eqy_38, qa_8_2, q_cp_hi (by omega)]; exact q_cp_d (by omega) (by omega)) rfl
  refine p_sub [1, 2, 0] rfl ?_
  exact qlp_8 _ _ _ (by first | assumption | omega) (by first | assumption | omega) (by rw [show 439 + 5 * n - (439 + 5 * n) = 0 by omega]; exact q_cp_0) rfl
set_option maxRecDepth 20000 in
set_option maxHeartbeats 4000000 in
theorem c_X9_takeBack {Γ : q_G} {S : q_S} {k n : Int} (ok : s_ok (S 151)) (h0 : 0 ≤ S 150 2) (h6 : S 150 2 ≤ 6) (kr : q_rg k) (nr : q_rg n) : q_Sp Γ mX9_takeBack 2 0 0 [q_r Γ 150, q_i k, q_i n] (KC, S) (q_ev (some (q_i (s_backV (S 151) k n))) (KC, s_backS S k n)) := by
  show q_Go Γ mX9_takeBack 2 0 0 0 [(0, q_r Γ 150), (1, q_i k), (2, q_i n)] [] (KC, S) (q_ev (some (q_i (s_backV (S 151) k n))) (KC, s_backS S k n))
  have rw0 := s_rows_b ok
  refine q_iloadn (pc' := 1) 1 dX9_takeBack_0 rfl rfl ?_
  refine q_iconst (pc' := 2) dX9_takeBack_1 rfl ?_
  refine q_iconst (pc' := 3) dX9_takeBack_2 rfl ?_
  refine q_callSI (pc' := 6) dX9_takeBack_3 rfl lX9_42 iX9_within (c_X9_within (by first | assumption | (rw [s_rec_151]; assumption) | omega) (by first | assumption | (rw [s_rec_151]; assumption) | omega) (by first | assumption | (rw [s_rec_151]; assumption) | omega)) rfl rfl (Nat.le_of_ble_eq_true rfl) (Nat.le_of_ble_eq_true rfl) (Nat.le_of_ble_eq_true rfl) ?_
  refine q_if_ne_B (tgt := 12) (pc' := 9) dX9_takeBack_6 rfl rfl (fun qc_6 => ?_) (fun qc_6 => ?_)
  · have hk : 0 ≤ S 151 (3 + k) ∧ S 151 (3 + k) ≤ 10 := by rcases (show k = 0 ∨ k = 1 by omega) with rfl | rfl; exact ok.2.2.1; exact ok.2.2.2.1
    refine q_iloadn (pc' := 13) 2 dX9_takeBack_12 rfl rfl ?_
    refine q_iconst (pc' := 14) dX9_takeBack_13 rfl ?_
    refine q_aloadn (pc' := 15) 0 dX9_takeBack_14 rfl rfl ?_
    refine p_getR (pc' := 18) (f := 151) dX9_takeBack_15 rfl fX9_7 kc150 rfl ?_
    refine q_iconst (pc' := 19) dX9_takeBack_18 rfl ?_
    refine q_iloadn (pc' := 20) 1 dX9_takeBack_19 rfl rfl ?_
    refine q_iadd (pc' := 21) dX9_takeBack_20 rfl ?_
    refine p_iald (pc' := 22) dX9_takeBack_21 rfl kc151 (by first | assumption | (rw [s_rec_151]; assumption) | omega) (by first | assumption | (rw [s_rec_151]; assumption) | omega) (by decide) (fun qy_21 eqy_21 rqy_21 => ?_)
    refine q_iconst (pc' := 23) dX9_takeBack_22 rfl ?_
    refine q_isub (pc' := 24) dX9_takeBack_23 rfl ?_
    refine q_callSI (pc' := 27) dX9_takeBack_24 rfl lX9_42 iX9_within (c_X9_within (by first | assumption | (rw [s_rec_151]; assumption) | omega) (by first | assumption | (rw [s_rec_151]; assumption) | omega) (by first | assumption | (rw [s_rec_151]; assumption) | omega)) rfl rfl (Nat.le_of_ble_eq_true rfl) (Nat.le_of_ble_eq_true rfl) (Nat.le_of_ble_eq_true rfl) ?_
    refine q_if_ne_B (tgt := 32) (pc' := 30) dX9_takeBack_27 rfl rfl (fun qc_27 => ?_) (fun qc_27 => ?_)
    · have hv : s_backV (S 151) k n = S 151 (3 + k) - 1 := by unfold s_backV; omega
      refine q_aloadn (pc' := 33) 0 dX9_takeBack_32 rfl rfl ?_
      refine q_callVV (pc' := 36) dX9_takeBack_33 rfl lX9_99 iX9_record kc150 rfl (c_X9_record (by first | assumption | (rw [s_rec_151]; assumption) | omega) (by first | assumption | (rw [s_rec_151]; assumption) | omega)) rfl rfl (Nat.le_of_ble_eq_true rfl) (Nat.le_of_ble_eq_true rfl) (Nat.le_of_ble_eq_true rfl) ?_
      refine q_iloadn (pc' := 37) 1 dX9_takeBack_36 rfl rfl ?_
      refine q_if_ne (tgt := 48) (pc' := 40) dX9_takeBack_37 rfl rfl (by first | assumption | (rw [s_rec_151]; assumption) | omega) (fun qc_37 => ?_) (fun qc_37 => ?_)
      · refine q_aloadn (pc' := 49) 0 dX9_takeBack_48 rfl rfl ?_
        refine q_iloadn (pc' := 50) 2 dX9_takeBack_49 rfl rfl ?_
        have e4 : s_rec S 151 4 = S 151 (3 + k) := by rw [s_rec_151, show k = 1 by omega]; rfl
        refine q_callVV (pc' := 53) dX9_takeBack_50 rfl lX9_142 iX9_dropBid kc150 rfl (c_X9_dropBid (by first | assumption | (rw [s_rec_151]; assumption) | omega) (by first | assumption | (rw [s_rec_151]; assumption) | omega) (by first | assumption | (rw [s_rec_151]; assumption) | omega)) rfl rfl (Nat.le_of_ble_eq_true rfl) (Nat.le_of_ble_eq_true rfl) (Nat.le_of_ble_eq_true rfl) ?_
        refine q_aloadn (pc' := 54) 0 dX9_takeBack_53 rfl rfl ?_
        refine p_getR (pc' := 57) (f := 151) dX9_takeBack_54 rfl fX9_7 kc150 rfl ?_
        refine q_iconst (pc' := 58) dX9_takeBack_57 rfl ?_
        refine q_iloadn (pc' := 59) 1 dX9_takeBack_58 rfl rfl ?_
        refine q_iadd (pc' := 60) dX9_takeBack_59 rfl ?_
        refine p_iald (pc' := 61) dX9_takeBack_60 rfl kc151 (by first | assumption | (rw [s_rec_151]; assumption) | omega) (by first | assumption | (rw [s_rec_151]; assumption) | omega) (by decide) (fun qy_60 eqy_60 rqy_60 => ?_)
        first | (have ev : qy_60 = S 151 (3 + k) - 1 := by rw [eqy_60, qc_37]; unfold s_dropA; rw [show (3 : Int) + 0 = 3 from rfl, q_up_eq, s_rec_151]) | (have ev : qy_60 = S 151 (3 + k) - 1 := by rw [eqy_60, show k = 1 by omega]; unfold s_dropB; rw [show (3 : Int) + 1 = 4 from rfl, q_up_eq, s_rec_151])
        refine p_iret dX9_takeBack_61 rfl ?_ ?_
        · first | omega | (rw [ev, hv])
        · unfold s_backS; first | (rw [if_pos (by omega)]; done) | (rw [if_neg (by omega), if_pos (by omega)]; done) | (rw [if_neg (by omega), if_neg (by omega)]; done)
      · refine q_aloadn (pc' := 41) 0 dX9_takeBack_40 rfl rfl ?_
        refine q_iloadn (pc' := 42) 2 dX9_takeBack_41 rfl rfl ?_
        have e3 : s_rec S 151 3 = S 151 (3 + k) := by rw [s_rec_151, qc_37]; rfl
        refine q_callVV (pc' := 45) dX9_takeBack_42 rfl lX9_138 iX9_dropAsk kc150 rfl (c_X9_dropAsk (by first | assumption | (rw [s_rec_151]; assumption) | omega) (by first | assumption | (rw [s_rec_151]; assumption) | omega) (by first | assumption | (rw [s_rec_151]; assumption) | omega)) rfl rfl (Nat.le_of_ble_eq_true rfl) (Nat.le_of_ble_eq_true rfl) (Nat.le_of_ble_eq_true rfl) ?_
        refine q_goto (pc' := 53) dX9_takeBack_45 rfl ?_
        refine q_aloadn (pc' := 54) 0 dX9_takeBack_53 rfl rfl ?_
        refine p_getR (pc' := 57) (f := 151) dX9_takeBack_54 rfl fX9_7 kc150 rfl ?_
        refine q_iconst (pc' := 58) dX9_takeBack_57 rfl ?_
        refine q_iloadn (pc' := 59) 1 dX9_takeBack_58 rfl rfl ?_
        refine q_iadd (pc' := 60) dX9_takeBack_59 rfl ?_
        refine p_iald (pc' := 61) dX9_takeBack_60 rfl kc151 (by first | assumption | (rw [s_rec_151]; assumption) | omega) (by first | assumption | (rw [s_rec_151]; assumption) | omega) (by decide) (fun qy_60_1 eqy_60_1 rqy_60_1 => ?_)
        first | (have ev : qy_60_1 = S 151 (3 + k) - 1 := by rw [eqy_60_1, qc_37]; unfold s_dropA; rw [show (3 : Int) + 0 = 3 from rfl, q_up_eq, s_rec_151]) | (have ev : qy_60_1 = S 151 (3 + k) - 1 := by rw [eqy_60_1, show k = 1 by omega]; unfold s_dropB; rw [show (3 : Int) + 1 = 4 from rfl, q_up_eq, s_rec_151])
        refine p_iret dX9_takeBack_61 rfl ?_ ?_
        · first | omega | (rw [ev, hv])
        · unfold s_backS; first | (rw [if_pos (by omega)]; done) | (rw [if_neg (by omega), if_pos (by omega)]; done) | (rw [if_neg (by omega), if_neg (by omega)]; done)
    · have hv : s_backV (S 151) k n = -1 := by unfold s_backV; omega
      refine q_iconst (pc' := 31) dX9_takeBack_30 rfl ?_
      refine p_iret dX9_takeBack_31 rfl ?_ ?_
      · first | omega | (rw [ev, hv])
      · unfold s_backS; first | (rw [if_pos (by omega)]; done) | (rw [if_neg (by omega), if_pos (by omega)]; done) | (rw [if_neg (by omega), if_neg (by omega)]; done)
  · have hv : s_backV (S 151) k n = -2 := by unfold s_backV; omega
    refine q_bipush (pc' := 11) dX9_takeBack_9 rfl rfl ?_
    refine p_iret dX9_takeBack_11 rfl ?_ ?_
    · first | omega | (rw [ev, hv])
    · unfold s_backS; first | (rw [if_pos (by omega)]; done) | (rw [if_neg (by omega), if_pos (by omega)]; done) | (rw [if_neg (by omega), if_neg (by omega)]; done)
set_option maxRecDepth 20000 in
set_option maxHeartbeats 4000000 in
theorem c_X9_undo {Γ : q_G} {S : q_S} (h0 : 0 ≤ S 150 2) (h6 : S 150 2 ≤ 6) : q_Sp Γ mX9_undo 1 0 0 [q_r Γ 150] (KC, S) (q_ev (some (q_i (s_undoV S))) (KC, s_undoS S)) := by
  show q_Go Γ mX9_undo 1 0 0 0 [(0, q_r Γ 150)] [] (KC, S) (q_ev (some (q_i (s_undoV S))) (KC, s_undoS S))
  refine q_aloadn (pc' := 1) 0 dX9_undo_0 rfl rfl ?_
  refine p_getJ (pc' := 4) (kz := 2) dX9_undo_1 rfl fX9_34 kc150 rfl rfl (fun qy_1 eqy_1 rqy_1 => ?_)
  refine q_if_ne (tgt := 10) (pc' := 7) dX9_undo_4 rfl rfl (by first | assumption | omega) (fun qc_4 => ?_) (fun qc_4 => ?_)
  · refine q_aloadn (pc' := 11) 0 dX9_undo_10 rfl rfl ?_
    refine q_dup (pc' := 12) dX9_undo_11 rfl rfl ?_
    refine p_getJ (pc' := 15) (kz := 2) dX9_undo_12 rfl fX9_34 kc150 rfl rfl (fun qy_12 eqy_12 rqy_12 => ?_)
    refine q_iconst (pc' := 16) dX9_undo_15 rfl ?_
    refine q_isub (pc' := 17) dX9_undo_16 rfl ?_
    refine p_putJ (pc' := 20) (kz := 2) dX9_undo_17 rfl fX9_34 kc150 rfl rfl (rfl) (rfl) (by first | assumption | omega) ?_
    refine q_aloadn (pc' := 21) 0 dX9_undo_20 rfl rfl ?_
    refine p_getR (pc' := 24) (f := 152) dX9_undo_21 rfl fX9_13 kc150 rfl ?_
    refine q_aloadn (pc' := 25) 0 dX9_undo_24 rfl rfl ?_
    refine p_getJ (pc' := 28) (kz := 2) dX9_undo_25 rfl fX9_34 kc150 rfl rfl (fun qy_25 eqy_25 rqy_25 => ?_)
    refine q_sipush (pc' := 31) dX9_undo_28 rfl rfl ?_
    refine q_imul (pc' := 32) dX9_undo_31 rfl ?_
    refine q_aloadn (pc' := 33) 0 dX9_undo_32 rfl rfl ?_
    refine p_getR (pc' := 36) (f := 151) dX9_undo_33 rfl fX9_7 kc150 rfl ?_
    refine q_iconst (pc' := 37) dX9_undo_36 rfl ?_
    have e25 : qy_25 = S 150 2 - 1 := by rw [eqy_25, q_up_eq, eqy_12]
    refine q_callSV (pc' := 40) dX9_undo_37 rfl lX9_38 iX9_copy (c_X9_copy kc152 kc151 (by decide) (by omega) (by omega) (by omega) (by omega) (by omega) (by omega)) rfl rfl (Nat.le_of_ble_eq_true rfl) (Nat.le_of_ble_eq_true rfl) (Nat.le_of_ble_eq_true rfl) ?_
    refine q_aloadn (pc' := 41) 0 dX9_undo_40 rfl rfl ?_
    refine p_getJ (pc' := 44) (kz := 2) dX9_undo_41 rfl fX9_34 kc150 rfl rfl (fun qy_41 eqy_41 rqy_41 => ?_)
    refine p_iret dX9_undo_44 rfl ?_ ?_
    · unfold s_undoV; first | (rw [if_pos (by omega)]; done) | (rw [if_neg (by omega), eqy_41, q_cp_ne (by decide), q_up_eq, eqy_12])
    · unfold s_undoS; first | (rw [if_pos (by omega)]; done) | (rw [if_neg (by omega), e25, ← eqy_12])
  · refine q_bipush (pc' := 9) dX9_undo_7 rfl rfl ?_
    refine p_iret dX9_undo_9 rfl ?_ ?_
    · unfold s_undoV; first | (rw [if_pos (by omega)]; done) | (rw [if_neg (by omega), eqnone_, q_cp_ne (by decide), q_up_eq, eqnone_])
    · unfold s_undoS; first | (rw [if_pos (by omega)]; done) | (rw [if_neg (by omega), e25, ← eqnone_])
set_option maxRecDepth 20000 in
set_option maxHeartbeats 4000000 in
theorem c_X9_save {Γ : q_G} {S : q_S} {k : Int} (kr : q_rg k) : q_Sp Γ mX9_save 1 0 0 [q_r Γ 150, q_i k] (KC, S) (q_ev (some (q_i (s_saveV S k))) (KC, s_saveS S k)) := by
  show q_Go Γ mX9_save 1 0 0 0 [(0, q_r Γ 150), (1, q_i k)] [] (KC, S) (q_ev (some (q_i (s_saveV S k))) (KC, s_saveS S k))
  refine q_iloadn (pc' := 1) 1 dX9_save_0 rfl rfl ?_
  refine q_iconst (pc' := 2) dX9_save_1 rfl ?_
  refine q_iconst (pc' := 3) dX9_save_2 rfl ?_
  refine q_callSI (pc' := 6) dX9_save_3 rfl lX9_42 iX9_within (c_X9_within (by first | assumption | omega) (by first | assumption | omega) (by first | assumption | omega)) rfl rfl (Nat.le_of_ble_eq_true rfl) (Nat.le_of_ble_eq_true rfl) (Nat.le_of_ble_eq_true rfl) ?_
  refine q_if_ne_B (tgt := 12) (pc' := 9) dX9_save_6 rfl rfl (fun qc_6 => ?_) (fun qc_6 => ?_)
  · refine q_aloadn (pc' := 13) 0 dX9_save_12 rfl rfl ?_
    refine p_getR (pc' := 16) (f := 151) dX9_save_13 rfl fX9_7 kc150 rfl ?_
    refine q_iconst (pc' := 17) dX9_save_16 rfl ?_
    refine q_aloadn (pc' := 18) 0 dX9_save_17 rfl rfl ?_
    refine p_getR (pc' := 21) (f := 153) dX9_save_18 rfl fX9_16 kc150 rfl ?_
    refine q_sipush (pc' := 24) dX9_save_21 rfl rfl ?_
    refine q_iloadn (pc' := 25) 1 dX9_save_24 rfl rfl ?_
    refine q_imul (pc' := 26) dX9_save_25 rfl ?_
    refine q_callSV (pc' := 29) dX9_save_26 rfl lX9_38 iX9_copy (c_X9_copy kc151 kc153 (by decide) (by omega) (by omega) (by omega) (by omega) (by omega) (by omega)) rfl rfl (Nat.le_of_ble_eq_true rfl) (Nat.le_of_ble_eq_true rfl) (Nat.le_of_ble_eq_true rfl) ?_
    refine q_aloadn (pc' := 30) 0 dX9_save_29 rfl rfl ?_
    refine p_getR (pc' := 33) (f := 154) dX9_save_30 rfl fX9_19 kc150 rfl ?_
    refine q_iloadn (pc' := 34) 1 dX9_save_33 rfl rfl ?_
    refine q_iconst (pc' := 35) dX9_save_34 rfl ?_
    refine p_iast (pc' := 36) dX9_save_35 rfl kc154 (by first | assumption | omega) (by first | assumption | omega) (by decide) (by first | assumption | omega) ?_
    refine q_aloadn (pc' := 37) 0 dX9_save_36 rfl rfl ?_
    refine p_getR (pc' := 40) (f := 151) dX9_save_37 rfl fX9_7 kc150 rfl ?_
    refine q_iconst (pc' := 41) dX9_save_40 rfl ?_
    refine p_iald (pc' := 42) dX9_save_41 rfl kc151 (by first | assumption | omega) (by first | assumption | omega) (by decide) (fun qy_41 eqy_41 rqy_41 => ?_)
    refine p_iret dX9_save_42 rfl ?_ ?_
    · unfold s_saveV; first | omega | (rw [if_neg (by omega), eqy_41, q_up_ne (by decide), q_cp_ne (by decide)])
    · unfold s_saveS; first | (rw [if_pos (by omega)]; done) | (rw [if_neg (by omega)]; done)
  · refine q_bipush (pc' := 11) dX9_save_9 rfl rfl ?_
    refine p_iret dX9_save_11 rfl ?_ ?_
    · unfold s_saveV; first | omega | (rw [if_neg (by omega), eqnone_, q_up_ne (by decide), q_cp_ne (by decide)])
    · unfold s_saveS; first | (rw [if_pos (by omega)]; done) | (rw [if_neg (by omega)]; done)
set_option maxRecDepth 20000 in
set_option maxHeartbeats 4000000 in
theorem c_X9_restore {Γ : q_G} {S : q_S} {k : Int} (h0 : 0 ≤ S 150 2) (h6 : S 150 2 ≤ 6) (kr : q_rg k) : q_Sp Γ mX9_restore 2 0 0 [q_r Γ 150, q_i k] (KC, S) (q_ev (some (q_i (s_restV S k))) (KC, s_restS S k)) := by
  show q_Go Γ mX9_restore 2 0 0 0 [(0, q_r Γ 150), (1, q_i k)] [] (KC, S) (q_ev (some (q_i (s_restV S k))) (KC, s_restS S k))
  refine q_iloadn (pc' := 1) 1 dX9_restore_0 rfl rfl ?_
  refine q_iconst (pc' := 2) dX9_restore_1 rfl ?_
  refine q_iconst (pc' := 3) dX9_restore_2 rfl ?_
  refine q_callSI (pc' := 6) dX9_restore_3 rfl lX9_42 iX9_within (c_X9_within (by first | assumption | omega) (by first | assumption | omega) (by first | assumption | omega)) rfl rfl (Nat.le_of_ble_eq_true rfl) (Nat.le_of_ble_eq_true rfl) (Nat.le_of_ble_eq_true rfl) ?_
  refine q_if_ne_B (tgt := 12) (pc' := 9) dX9_restore_6 rfl rfl (fun qc_6 => ?_) (fun qc_6 => ?_)
  · refine q_aloadn (pc' := 13) 0 dX9_restore_12 rfl rfl ?_
    refine p_getR (pc' := 16) (f := 154) dX9_restore_13 rfl fX9_19 kc150 rfl ?_
    refine q_iloadn (pc' := 17) 1 dX9_restore_16 rfl rfl ?_
    refine p_iald (pc' := 18) dX9_restore_17 rfl kc154 (by first | assumption | omega) (by first | assumption | omega) (by decide) (fun qy_17 eqy_17 rqy_17 => ?_)
    refine q_if_ne (tgt := 24) (pc' := 21) dX9_restore_18 rfl rfl (by first | assumption | omega) (fun qc_18 => ?_) (fun qc_18 => ?_)
    · refine q_aloadn (pc' := 25) 0 dX9_restore_24 rfl rfl ?_
      refine q_callVV (pc' := 28) dX9_restore_25 rfl lX9_99 iX9_record kc150 rfl (c_X9_record (by first | assumption | omega) (by first | assumption | omega)) rfl rfl (Nat.le_of_ble_eq_true rfl) (Nat.le_of_ble_eq_true rfl) (Nat.le_of_ble_eq_true rfl) ?_
      refine q_aloadn (pc' := 29) 0 dX9_restore_28 rfl rfl ?_
      refine p_getR (pc' := 32) (f := 153) dX9_restore_29 rfl fX9_16 kc150 rfl ?_
      refine q_sipush (pc' := 35) dX9_restore_32 rfl rfl ?_
      refine q_iloadn (pc' := 36) 1 dX9_restore_35 rfl rfl ?_
      refine q_imul (pc' := 37) dX9_restore_36 rfl ?_
      refine q_aloadn (pc' := 38) 0 dX9_restore_37 rfl rfl ?_
      refine p_getR (pc' := 41) (f := 151) dX9_restore_38 rfl fX9_7 kc150 rfl ?_
      refine q_iconst (pc' := 42) dX9_restore_41 rfl ?_
      refine q_callSV (pc' := 45) dX9_restore_42 rfl lX9_38 iX9_copy (c_X9_copy kc153 kc151 (by decide) (by omega) (by omega) (by omega) (by omega) (by omega) (by omega)) rfl rfl (Nat.le_of_ble_eq_true rfl) (Nat.le_of_ble_eq_true rfl) (Nat.le_of_ble_eq_true rfl) ?_
      refine q_aloadn (pc' := 46) 0 dX9_restore_45 rfl rfl ?_
      refine p_getR (pc' := 49) (f := 151) dX9_restore_46 rfl fX9_7 kc150 rfl ?_
      refine q_iconst (pc' := 50) dX9_restore_49 rfl ?_
      refine p_iald (pc' := 51) dX9_restore_50 rfl kc151 (by first | assumption | omega) (by first | assumption | omega) (by decide) (fun qy_50 eqy_50 rqy_50 => ?_)
      refine p_iret dX9_restore_51 rfl ?_ ?_
      · unfold s_restV; first | omega | (rw [if_neg (by omega), if_neg (by omega), eqy_50, q_cp_in (by omega) (by omega), s_rec_ne (by decide) (by decide)]; rw [show 489 * k + (0 - 0) = 489 * k by omega])
      · unfold s_restS; first | (rw [if_pos (by omega)]; done) | (rw [if_neg (by omega), if_pos (by omega)]; done) | (rw [if_neg (by omega), if_neg (by omega)]; done)
    · refine q_bipush (pc' := 23) dX9_restore_21 rfl rfl ?_
      refine p_iret dX9_restore_23 rfl ?_ ?_
      · unfold s_restV; first | omega | (rw [if_neg (by omega), if_neg (by omega), eqnone_, q_cp_in (by omega) (by omega), s_rec_ne (by decide) (by decide)]; rw [show 489 * k + (0 - 0) = 489 * k by omega])
      · unfold s_restS; first | (rw [if_pos (by omega)]; done) | (rw [if_neg (by omega), if_pos (by omega)]; done) | (rw [if_neg (by omega), if_neg (by omega)]; done)
  · refine q_bipush (pc' := 11) dX9_restore_9 rfl rfl ?_
    refine p_iret dX9_restore_11 rfl ?_ ?_
    · unfold s_restV; first | omega | (rw [if_neg (by omega), if_neg (by omega), eqnone_, q_cp_in (by omega) (by omega), s_rec_ne (by decide) (by decide)]; rw [show 489 * k + (0 - 0) = 489 * k by omega])
    · unfold s_restS; first | (rw [if_pos (by omega)]; done) | (rw [if_neg (by omega), if_pos (by omega)]; done) | (rw [if_neg (by omega), if_neg (by omega)]; done)
set_option maxRecDepth 20000 in
set_option maxHeartbeats 4000000 in
theorem c_X9_wipe {Γ : q_G} {S : q_S}  : q_Sp Γ mX9_wipe 0 0 0 [q_r Γ 150] (KC, S) (q_ev (some (q_i (S 150 6))) (KC, q_up S 150 6 0)) := by
  show q_Go Γ mX9_wipe 0 0 0 0 [(0, q_r Γ 150)] [] (KC, S) (q_ev (some (q_i (S 150 6))) (KC, q_up S 150 6 0))
  refine q_aloadn (pc' := 1) 0 dX9_wipe_0 rfl rfl ?_
  refine p_getJ (pc' := 4) (kz := 6) dX9_wipe_1 rfl fX9_183 kc150 rfl rfl (fun qy_1 eqy_1 rqy_1 => ?_)
  refine q_istoren (pc' := 5) (L' := [(1, q_i qy_1), (0, q_r Γ 150)]) dX9_wipe_4 rfl rfl (by decide) rfl ?_
  refine q_aloadn (pc' := 6) 1 dX9_wipe_5 rfl rfl ?_
  refine q_iconst (pc' := 7) dX9_wipe_6 rfl ?_
  refine p_putJ (pc' := 10) (kz := 6) dX9_wipe_7 rfl fX9_183 kc150 rfl rfl (rfl) (rfl) (by first | assumption | omega) ?_
  refine q_iloadn (pc' := 11) 0 dX9_wipe_10 rfl rfl ?_
  refine p_iret dX9_wipe_11 rfl ?_ ?_
  · assumption
  · rfl
