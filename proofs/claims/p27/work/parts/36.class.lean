set_option maxRecDepth 20000 in
set_option maxHeartbeats 4000000 in
theorem c_X2_tiltOf {Γ : q_G} {S : q_S} {φ : Int → Int} {h : Int} {r : Int} (FF : s_F S 1 φ) (ok : s_ok φ) (h0 : 0 ≤ h) (h1 : h < 10) (r0 : 0 ≤ r) (r1 : r < 6) (hl : S 16 r = s_lim φ r h) : q_Sp Γ mX2_tiltOf 1 0 0 [q_r Γ 14, q_i r] (KC, S) (q_ev (some (q_i (s_ti φ r (s_pt φ r 2) h))) (KC, S)) := by
  show q_Go Γ mX2_tiltOf 1 0 0 0 [(0, q_r Γ 14), (1, q_i r)] [] (KC, S) (q_ev (some (q_i (s_ti φ r (s_pt φ r 2) h))) (KC, S))
  have pr := s_pt_b ok r0 r1
  refine q_aloadn (pc' := 1) 0 dX2_tiltOf_0 rfl rfl ?_
  refine p_getR (pc' := 4) (f := 1) dX2_tiltOf_1 rfl fX2_28 kc14 rfl ?_
  refine p_getR (pc' := 7) (f := 4) dX2_tiltOf_4 rfl fX2_85 kc1 rfl ?_
  refine q_iloadn (pc' := 8) 1 dX2_tiltOf_7 rfl rfl ?_
  refine p_iald (pc' := 9) dX2_tiltOf_8 rfl kc4 (by first | assumption | omega) (by first | assumption | omega) (by decide) (fun qy_8 eqy_8 rqy_8 => ?_)
  have vqy_8 : qy_8 = s_pt φ (r) 2 := eqy_8.trans (s_F_4 FF (by first | assumption | omega) (by first | assumption | omega))
  rw [vqy_8]
  refine q_aloadn (pc' := 10) 0 dX2_tiltOf_9 rfl rfl ?_
  refine p_getR (pc' := 13) (f := 16) dX2_tiltOf_10 rfl fX2_19 kc14 rfl ?_
  refine q_iloadn (pc' := 14) 1 dX2_tiltOf_13 rfl rfl ?_
  refine p_iald (pc' := 15) dX2_tiltOf_14 rfl kc16 (by first | assumption | omega) (by first | assumption | omega) (by decide) (fun qy_14 eqy_14 rqy_14 => ?_)
  have el : qy_14 = s_lim φ r h := by rw [eqy_14]; exact hl
  refine p_min (pc' := 18) dX2_tiltOf_15 rfl wX2_80 (Nat.le_of_ble_eq_true rfl) (Nat.le_of_ble_eq_true rfl) (by first | assumption | omega) (by first | assumption | omega) (fun qy_15 eqy_15 => ?_)
  refine p_iret dX2_tiltOf_18 rfl ?_ ?_
  · rw [s_ti_lim ok r0 r1 pr.2.2.1 pr.2.2.2 h0 h1]; omega
  · rfl
set_option maxRecDepth 20000 in
set_option maxHeartbeats 4000000 in
theorem c_X2_look {Γ : q_G} {S : q_S} {φ : Int → Int} {h : Int}  (FF : s_F S 1 φ) (ok : s_ok φ) (h0 : 0 ≤ h) (h1 : h < 10) : q_Sp Γ mX2_look 2 0 0 [q_r Γ 14, q_i h] (KC, S) (fun v w => v = none ∧ ∃ S2, w = (KC, S2) ∧ s_offK S S2 ∧ s_lk S2 φ h) := by
  show q_Go Γ mX2_look 2 0 0 0 [(0, q_r Γ 14), (1, q_i h)] [] (KC, S) (fun v w => v = none ∧ ∃ S2, w = (KC, S2) ∧ s_offK S S2 ∧ s_lk S2 φ h)
  have rw0 := s_rows_b ok
  refine q_aloadn (pc' := 1) 0 dX2_look_0 rfl rfl ?_
  refine q_iloadn (pc' := 2) 1 dX2_look_1 rfl rfl ?_
  refine p_putJ (pc' := 5) (kz := 1) dX2_look_2 rfl fX2_9 kc14 rfl rfl (rfl) (rfl) (by first | assumption | omega) ?_
  refine q_iconst (pc' := 6) dX2_look_5 rfl ?_
  refine q_istoren (pc' := 7) (L' := [(2, q_i 0), (0, q_r Γ 14), (1, q_i h)]) dX2_look_6 rfl rfl (by decide) rfl ?_
  have qlp_7 : ∀ (qn_7 : Nat) (S2 : q_S) (a : Int), (0 ≤ a) → (a ≤ φ 0) → (s_offK S S2) → (S2 14 1 = h) → (s_lkN S2 φ h a) → ((6 - a).toNat) = qn_7 → q_Go Γ mX2_look 2 0 0 7 [(0, q_r Γ 14), (1, q_i h), (2, q_i a)] [] (KC, S2) (fun v w => v = none ∧ ∃ S2, w = (KC, S2) ∧ s_offK S S2 ∧ s_lk S2 φ h) := by
    intro qn_7
    induction qn_7 using Nat.strongRecOn with
    | ind qn_7 qih_7 =>
      intro S2 a qa_7_0 qa_7_1 qa_7_2 qa_7_3 qa_7_4 qhn_7
      subst qhn_7
      have FF2 : s_F S2 1 φ := s_F_K FF qa_7_2
      refine q_iloadn (pc' := 8) 2 dX2_look_7 rfl rfl ?_
      refine q_aloadn (pc' := 9) 0 dX2_look_8 rfl rfl ?_
      refine p_getR (pc' := 12) (f := 1) dX2_look_9 rfl fX2_28 kc14 rfl ?_
      refine p_getJ (pc' := 15) (kz := 0) dX2_look_12 rfl fX2_32 kc1 rfl rfl (fun qy_12 eqy_12 rqy_12 => ?_)
      have vqy_12 : qy_12 = φ 0 := eqy_12.trans (s_F_0 FF2)
      rw [vqy_12]
      refine q_icmp_ge (tgt := 92) (pc' := 18) dX2_look_15 rfl rfl (by first | assumption | omega) (by first | assumption | omega) (fun qc_15 => ?_) (fun qc_15 => ?_)
      · exact q_vret dX2_look_92 rfl ⟨rfl, _, rfl, qa_7_2, s_lkN_lk qa_7_3 (by rw [show φ 0 = a by omega]; exact qa_7_4)⟩
      · refine q_iconst (pc' := 19) dX2_look_18 rfl ?_
        refine q_istoren (pc' := 20) (L' := [(3, q_i 0), (0, q_r Γ 14), (1, q_i h), (2, q_i a)]) dX2_look_19 rfl rfl (by decide) rfl ?_
        have qlp_20 : ∀ (qn_20 : Nat) (S3 : q_S) (b : Int), (0 ≤ b) → (b ≤ φ 0) → (s_offK S S3) → (S3 14 1 = h) → (s_lkN S3 φ h a) → (∀ b2, 0 ≤ b2 → b2 < b → S3 15 (6 * a + b2) = s_lss φ a b2 h) → ((6 - b).toNat) = qn_20 → q_Go Γ mX2_look 2 0 0 20 [(0, q_r Γ 14), (1, q_i h), (2, q_i a), (3, q_i b)] [] (KC, S3) (fun v w => v = none ∧ ∃ S2, w = (KC, S2) ∧ s_offK S S2 ∧ s_lk S2 φ h) := by
          intro qn_20
          induction qn_20 using Nat.strongRecOn with
          | ind qn_20 qih_20 =>
            intro S3 b qa_20_0 qa_20_1 qa_20_2 qa_20_3 qa_20_4 qa_20_5 qhn_20
            subst qhn_20
            have FF3 : s_F S3 1 φ := s_F_K FF qa_20_2
            refine q_iloadn (pc' := 21) 3 dX2_look_20 rfl rfl ?_
            refine q_aloadn (pc' := 22) 0 dX2_look_21 rfl rfl ?_
            refine p_getR (pc' := 25) (f := 1) dX2_look_22 rfl fX2_28 kc14 rfl ?_
            refine p_getJ (pc' := 28) (kz := 0) dX2_look_25 rfl fX2_32 kc1 rfl rfl (fun qy_25 eqy_25 rqy_25 => ?_)
            have vqy_25 : qy_25 = φ 0 := eqy_25.trans (s_F_0 FF3)
            rw [vqy_25]
            refine q_icmp_ge (tgt := 54) (pc' := 31) dX2_look_28 rfl rfl (by first | assumption | omega) (by first | assumption | omega) (fun qc_28 => ?_) (fun qc_28 => ?_)
            · have HB : ∀ b2, 0 ≤ b2 → b2 < φ 0 → S3 15 (6 * a + b2) = s_lss φ a b2 h := fun b2 x y => qa_20_5 b2 x (by omega)
              refine q_aloadn (pc' := 55) 0 dX2_look_54 rfl rfl ?_
              refine p_getR (pc' := 58) (f := 16) dX2_look_55 rfl fX2_19 kc14 rfl ?_
              refine q_iloadn (pc' := 59) 2 dX2_look_58 rfl rfl ?_
              refine q_aloadn (pc' := 60) 0 dX2_look_59 rfl rfl ?_
              refine q_iloadn (pc' := 61) 2 dX2_look_60 rfl rfl ?_
              refine q_callVI (pc' := 64) dX2_look_61 rfl lX2_41 iX2_limitOf kc14 rfl (c_X2_limitOf (by first | assumption | omega) (by first | assumption | omega) (by first | assumption | omega) (by first | assumption | omega) (by first | assumption | omega) (by first | assumption | omega) (by first | assumption | omega) (by first | assumption | omega)) rfl rfl (Nat.le_of_ble_eq_true rfl) (Nat.le_of_ble_eq_true rfl) (Nat.le_of_ble_eq_true rfl) ?_
              have lb := s_lim_b (φ := φ) (r := a) (h := h)
              refine p_iast (pc' := 65) dX2_look_64 rfl kc16 (by first | assumption | omega) (by first | assumption | omega) (by decide) (by first | assumption | omega) ?_
              refine q_topS (fun qW hqW => ?_)
              have FFw : s_F qW 1 φ := s_F_K FF (by rw [hqW]; exact s_offK_u qa_20_2 (by decide) (by decide))
              have hl : qW 16 a = s_lim φ a h := by rw [hqW]; exact q_up_eq
              refine q_aloadn (pc' := 66) 0 dX2_look_65 rfl rfl ?_
              refine p_getR (pc' := 69) (f := 17) dX2_look_66 rfl fX2_22 kc14 rfl ?_
              refine q_iloadn (pc' := 70) 2 dX2_look_69 rfl rfl ?_
              refine q_aloadn (pc' := 71) 0 dX2_look_70 rfl rfl ?_
              refine p_getR (pc' := 74) (f := 1) dX2_look_71 rfl fX2_28 kc14 rfl ?_
              refine p_getR (pc' := 77) (f := 3) dX2_look_74 rfl fX2_45 kc1 rfl ?_
              refine q_iloadn (pc' := 78) 2 dX2_look_77 rfl rfl ?_
              refine p_iald (pc' := 79) dX2_look_78 rfl kc3 (by first | assumption | omega) (by first | assumption | omega) (by decide) (fun qy_78 eqy_78 rqy_78 => ?_)
              have vqy_78 : qy_78 = s_pt φ (a) 1 := eqy_78.trans (s_F_3 FFw (by first | assumption | omega) (by first | assumption | omega))
              rw [vqy_78]
              refine q_aloadn (pc' := 80) 0 dX2_look_79 rfl rfl ?_
              refine q_iloadn (pc' := 81) 2 dX2_look_80 rfl rfl ?_
              refine q_callVI (pc' := 84) dX2_look_81 rfl lX2_48 iX2_tiltOf kc14 rfl (c_X2_tiltOf (h := h) FFw ok h0 h1 (by omega) (by omega) hl) rfl rfl (Nat.le_of_ble_eq_true rfl) (Nat.le_of_ble_eq_true rfl) (Nat.le_of_ble_eq_true rfl) ?_
              refine q_imul (pc' := 85) dX2_look_84 rfl ?_
              change q_Go _ _ _ _ _ _ _ (q_i (s_he φ a h) :: _) _ _
              have hb := s_he_b ok h (r := a) (by omega) (by omega)
              refine p_iast (pc' := 86) dX2_look_85 rfl kc17 (by first | assumption | omega) (by first | assumption | omega) (by decide) (by first | assumption | omega) ?_
              refine q_iinc (pc' := 89) 2 (L' := [(2, q_i (a + 1)), (0, q_r Γ 14), (1, q_i h), (3, q_i b)]) dX2_look_86 rfl rfl (by decide) rfl ?_
              refine q_goto (pc' := 7) dX2_look_89 rfl ?_
              refine p_sub [1, 2, 0] rfl ?_
              exact qih_7 _ (by omega) _ _ (by first | assumption | omega) (by first | assumption | omega) (by rw [hqW]; exact s_offK_u (s_offK_u (by assumption) (by decide) (by decide)) (by decide) (by decide)) (by rw [hqW, q_up_ne (by decide), q_up_ne (by decide)]; assumption) (by rw [hqW]; exact s_lkN_s (by assumption) HB) rfl
            · refine q_aloadn (pc' := 32) 0 dX2_look_31 rfl rfl ?_
              refine p_getR (pc' := 35) (f := 15) dX2_look_32 rfl fX2_15 kc14 rfl ?_
              refine q_iloadn (pc' := 36) 2 dX2_look_35 rfl rfl ?_
              refine q_bipush (pc' := 38) dX2_look_36 rfl rfl ?_
              refine q_imul (pc' := 39) dX2_look_38 rfl ?_
              refine q_iloadn (pc' := 40) 3 dX2_look_39 rfl rfl ?_
              refine q_iadd (pc' := 41) dX2_look_40 rfl ?_
              refine q_aloadn (pc' := 42) 0 dX2_look_41 rfl rfl ?_
              refine q_iloadn (pc' := 43) 2 dX2_look_42 rfl rfl ?_
              refine q_iloadn (pc' := 44) 3 dX2_look_43 rfl rfl ?_
              refine q_callVI (pc' := 47) dX2_look_44 rfl lX2_37 iX2_lossBetween kc14 rfl (c_X2_lossBetween (by first | assumption | omega) (by first | assumption | omega) (by first | assumption | omega) (by first | assumption | omega) (by first | assumption | omega) (by first | assumption | omega) (by first | assumption | omega) (by first | assumption | omega) (by first | assumption | omega)) rfl rfl (Nat.le_of_ble_eq_true rfl) (Nat.le_of_ble_eq_true rfl) (Nat.le_of_ble_eq_true rfl) ?_
              have lb := s_lss_b ok (a := a) (b := b) (by omega) (by omega) (by omega) (by omega) h0 h1
              refine p_iast (pc' := 48) dX2_look_47 rfl kc15 (by first | assumption | omega) (by first | assumption | omega) (by decide) (by first | assumption | omega) ?_
              refine q_iinc (pc' := 51) 3 (L' := [(3, q_i (b + 1)), (0, q_r Γ 14), (1, q_i h), (2, q_i a)]) dX2_look_48 rfl rfl (by decide) rfl ?_
              refine q_goto (pc' := 20) dX2_look_51 rfl ?_
              refine p_sub [1, 2, 3, 0] rfl ?_
              exact qih_20 _ (by omega) _ _ (by first | assumption | omega) (by first | assumption | omega) (by exact s_offK_u (by assumption) (by decide) (by decide)) (by rw [q_up_ne (by decide)]; assumption) (by exact s_lkN_15 (by omega) (by omega) (by assumption)) (by intro b2 x y; rcases (show b2 < b ∨ b2 = b by omega) with g | g; (rw [q_up_nz (by omega)]; exact qa_20_5 b2 x g); (subst g; rw [show 6 * a + b2 = a * 6 + b2 by omega, q_up_eq])) rfl
        refine p_sub [1, 2, 3, 0] rfl ?_
        exact qlp_20 _ _ _ (by first | assumption | omega) (by first | assumption | omega) (by assumption) (by assumption) (by assumption) (by intro b2 x y; omega) rfl
  refine p_sub [1, 2, 0] rfl ?_
  exact qlp_7 _ _ _ (by first | assumption | omega) (by first | assumption | omega) (by exact s_offK_u s_offK_r (by decide) (by decide)) (by exact q_up_eq) (by intro a a0 a1; omega) rfl
set_option maxRecDepth 20000 in
set_option maxHeartbeats 4000000 in
theorem c_X2_shadow {Γ : q_G} {S : q_S} {φ : Int → Int} {h : Int} {a b u : Int} (LK : s_lk S φ h) (ok : s_ok φ) (rw0 : 0 ≤ φ 0 ∧ φ 0 ≤ 6) (h0 : 0 ≤ h) (h1 : h < 10) (a0 : 0 ≤ a) (a1 : a < φ 0) (b0 : 0 ≤ b) (b1 : b < φ 0) (u0 : 0 ≤ u) (u1 : u ≤ 1000) : q_Sp Γ mX2_shadow 1 0 0 [q_r Γ 14, q_i a, q_i b, q_i u] (KC, S) (q_ev (some (q_i (max 0 (u - s_lss φ a b h)))) (KC, S)) := by
  show q_Go Γ mX2_shadow 1 0 0 0 [(0, q_r Γ 14), (1, q_i a), (2, q_i b), (3, q_i u)] [] (KC, S) (q_ev (some (q_i (max 0 (u - s_lss φ a b h)))) (KC, S))
  refine q_iconst (pc' := 1) dX2_shadow_0 rfl ?_
  refine q_iloadn (pc' := 2) 3 dX2_shadow_1 rfl rfl ?_
  refine q_aloadn (pc' := 3) 0 dX2_shadow_2 rfl rfl ?_
  refine p_getR (pc' := 6) (f := 15) dX2_shadow_3 rfl fX2_15 kc14 rfl ?_
  refine q_iloadn (pc' := 7) 1 dX2_shadow_6 rfl rfl ?_
  refine q_bipush (pc' := 9) dX2_shadow_7 rfl rfl ?_
  refine q_imul (pc' := 10) dX2_shadow_9 rfl ?_
  refine q_iloadn (pc' := 11) 2 dX2_shadow_10 rfl rfl ?_
  refine q_iadd (pc' := 12) dX2_shadow_11 rfl ?_
  refine p_iald (pc' := 13) dX2_shadow_12 rfl kc15 (by first | assumption | omega) (by first | assumption | omega) (by decide) (fun qy_12 eqy_12 rqy_12 => ?_)
  have el : qy_12 = s_lss φ a b h := by rw [eqy_12, show a * 6 + b = 6 * a + b by omega]; exact LK.2.1 a b a0 a1 b0 b1
  have lb := s_lss_b ok (a := a) (b := b) (by omega) (by omega) (by omega) (by omega) h0 h1
  refine q_isub (pc' := 14) dX2_shadow_13 rfl ?_
  refine p_max (pc' := 17) dX2_shadow_14 rfl wX2_88 (Nat.le_of_ble_eq_true rfl) (Nat.le_of_ble_eq_true rfl) (by first | assumption | omega) (by first | assumption | omega) (fun qy_14 eqy_14 => ?_)
  refine p_iret dX2_shadow_17 rfl ?_ ?_
  · omega
  · rfl
set_option maxRecDepth 20000 in
set_option maxHeartbeats 4000000 in
theorem c_X2_toBlame {Γ : q_G} {S : q_S} {φ : Int → Int} {h : Int} {r : Int} (FF : s_F S 1 φ) (ok : s_ok φ) (LK : s_lk S φ h) (h0 : 0 ≤ h) (h1 : h < 10) (r0 : 0 ≤ r) (r1 : r < φ 0) : q_Sp Γ mX2_toBlame 2 0 0 [q_r Γ 14, q_i r] (KC, S) (q_ev (some (q_i (s_bl φ r h))) (KC, S)) := by
  show q_Go Γ mX2_toBlame 2 0 0 0 [(0, q_r Γ 14), (1, q_i r)] [] (KC, S) (q_ev (some (q_i (s_bl φ r h))) (KC, S))
  have rw0 := s_rows_b ok
  have hH : S 14 1 = h := LK.1
  refine q_bipush (pc' := 2) dX2_toBlame_0 rfl rfl ?_
  refine q_istoren (pc' := 3) (L' := [(2, q_i (-6)), (0, q_r Γ 14), (1, q_i r)]) dX2_toBlame_2 rfl rfl (by decide) rfl ?_
  refine q_iconst (pc' := 4) dX2_toBlame_3 rfl ?_
  refine q_istoren (pc' := 5) (L' := [(3, q_i 0), (2, q_i (-6)), (0, q_r Γ 14), (1, q_i r)]) dX2_toBlame_4 rfl rfl (by decide) rfl ?_
  refine q_iconst (pc' := 6) dX2_toBlame_5 rfl ?_
  refine q_istore (pc' := 8) (L' := [(4, q_i 0), (3, q_i 0), (2, q_i (-6)), (0, q_r Γ 14), (1, q_i r)]) dX2_toBlame_6 rfl (by decide) rfl ?_
  refine q_iconst (pc' := 9) dX2_toBlame_8 rfl ?_
  refine q_istore (pc' := 11) (L' := [(5, q_i 0), (4, q_i 0), (3, q_i 0), (2, q_i (-6)), (0, q_r Γ 14), (1, q_i r)]) dX2_toBlame_9 rfl (by decide) rfl ?_
  have qlp_11 : ∀ (qn_11 : Nat) (bl hi ne k : Int), (0 ≤ k) → (k ≤ φ 0) → (bl = (s_bN φ r h k.toNat).1) → (hi = (s_bN φ r h k.toNat).2) → (-200 ≤ ne ∧ ne ≤ 200) → (bl = -6 ∨ ne = s_dist φ bl r h) → ((6 - k).toNat) = qn_11 → q_Go Γ mX2_toBlame 2 0 0 11 [(0, q_r Γ 14), (1, q_i r), (2, q_i bl), (3, q_i hi), (4, q_i ne), (5, q_i k)] [] (KC, S) (q_ev (some (q_i (s_bl φ r h))) (KC, S)) := by
    intro qn_11
    induction qn_11 using Nat.strongRecOn with
    | ind qn_11 qih_11 =>
      intro bl hi ne k qa_11_0 qa_11_1 qa_11_2 qa_11_3 qa_11_4 qa_11_5 qhn_11
      subst qhn_11
      have bb := s_bN_b ok r0 (show r < 6 by omega) h0 h1 k.toNat (by omega)
      rw [← qa_11_2, ← qa_11_3] at bb
      have f2 : bl ≠ -6 → s_far φ bl r = s_dist φ bl r h := fun q => s_far_d (by rcases bb.2 with g | g; exact absurd g.1 q; omega)
      refine q_iload (pc' := 13) 5 dX2_toBlame_11 rfl rfl ?_
      refine q_aloadn (pc' := 14) 0 dX2_toBlame_13 rfl rfl ?_
      refine p_getR (pc' := 17) (f := 1) dX2_toBlame_14 rfl fX2_28 kc14 rfl ?_
      refine p_getJ (pc' := 20) (kz := 0) dX2_toBlame_17 rfl fX2_32 kc1 rfl rfl (fun qy_17 eqy_17 rqy_17 => ?_)
      have vqy_17 : qy_17 = φ 0 := eqy_17.trans (s_F_0 FF)
      rw [vqy_17]
      refine q_icmp_ge (tgt := 99) (pc' := 23) dX2_toBlame_20 rfl rfl (by first | assumption | omega) (by first | assumption | omega) (fun qc_20 => ?_) (fun qc_20 => ?_)
      · refine q_iloadn (pc' := 100) 2 dX2_toBlame_99 rfl rfl ?_
        refine p_iret dX2_toBlame_100 rfl ?_ ?_
        · rw [qa_11_2, show k = φ 0 by omega]; rfl
        · rfl
      · refine q_iload (pc' := 25) 5 dX2_toBlame_23 rfl rfl ?_
        refine q_iloadn (pc' := 26) 1 dX2_toBlame_25 rfl rfl ?_
        refine q_icmp_ne (tgt := 33) (pc' := 29) dX2_toBlame_26 rfl rfl (by first | assumption | omega) (by first | assumption | omega) (fun qc_26 => ?_) (fun qc_26 => ?_)
        · refine q_aloadn (pc' := 34) 0 dX2_toBlame_33 rfl rfl ?_
          refine q_iload (pc' := 36) 5 dX2_toBlame_34 rfl rfl ?_
          refine q_iloadn (pc' := 37) 1 dX2_toBlame_36 rfl rfl ?_
          refine q_aloadn (pc' := 38) 0 dX2_toBlame_37 rfl rfl ?_
          refine p_getR (pc' := 41) (f := 17) dX2_toBlame_38 rfl fX2_22 kc14 rfl ?_
          refine q_iload (pc' := 43) 5 dX2_toBlame_41 rfl rfl ?_
          refine p_iald (pc' := 44) dX2_toBlame_43 rfl kc17 (by first | assumption | omega) (by first | assumption | omega) (by decide) (fun qy_43 eqy_43 rqy_43 => ?_)
          have eh : qy_43 = s_he φ k h := by rw [eqy_43]; exact (LK.2.2 k (by omega) (by omega)).2
          have hb := s_he_b ok h (r := k) (by omega) (by omega)
          rw [eh]
          refine q_callVI (pc' := 47) dX2_toBlame_44 rfl lX2_91 iX2_shadow kc14 rfl (c_X2_shadow (by first | assumption | omega) (by first | assumption | omega) (by first | assumption | omega) (by first | assumption | omega) (by first | assumption | omega) (by first | assumption | omega) (by first | assumption | omega) (by first | assumption | omega) (by first | assumption | omega) (by first | assumption | omega) (by first | assumption | omega)) rfl rfl (Nat.le_of_ble_eq_true rfl) (Nat.le_of_ble_eq_true rfl) (Nat.le_of_ble_eq_true rfl) ?_
          refine p_eq (y := s_up φ r h k) (by first | exact (s_si_lss ok (by omega) (by omega)).trans (if_neg (by omega)).symm | exact (if_pos (by omega)).symm) ?_
          have ub := s_up_b ok (a := k) (r := r) (by omega) (by omega) (by omega) (by omega) h0 h1
          have f1 : 0 < s_up φ r h k → s_far φ k r = s_dist φ k r h := fun q => s_far_d q
          have db := s_dist_b ok h (a := k) (b := r) (by omega) (by omega) (by omega) (by omega)
          refine q_istore (pc' := 49) (L' := [(6, q_i (s_up φ r h k)), (0, q_r Γ 14), (1, q_i r), (2, q_i bl), (3, q_i hi), (4, q_i ne), (5, q_i k)]) dX2_toBlame_47 rfl (by decide) rfl ?_
          refine q_aloadn (pc' := 50) 1 dX2_toBlame_49 rfl rfl ?_
          refine q_iload (pc' := 52) 6 dX2_toBlame_50 rfl rfl ?_
          refine q_iloadn (pc' := 53) 2 dX2_toBlame_52 rfl rfl ?_
          refine q_callVI (pc' := 56) dX2_toBlame_53 rfl lX2_63 iX2_ahead kc14 rfl (c_X2_ahead (by first | assumption | omega) (by first | assumption | omega) (by first | assumption | omega) (by first | assumption | omega) (by first | assumption | omega) (by first | assumption | omega) (by first | assumption | omega) (by first | assumption | omega) (by first | assumption | omega)) rfl rfl (Nat.le_of_ble_eq_true rfl) (Nat.le_of_ble_eq_true rfl) (Nat.le_of_ble_eq_true rfl) ?_
          refine q_istore (pc' := 58) (L' := [(7, q_i (s_dist φ k r h)), (6, q_i (s_up φ r h k)), (0, q_r Γ 14), (1, q_i r), (2, q_i bl), (3, q_i hi), (4, q_i ne), (5, q_i k)]) dX2_toBlame_56 rfl (by decide) rfl ?_
          refine q_iload (pc' := 60) 1 dX2_toBlame_58 rfl rfl ?_
          refine q_iloadn (pc' := 61) 5 dX2_toBlame_60 rfl rfl ?_
          refine q_icmp_gt (tgt := 83) (pc' := 64) dX2_toBlame_61 rfl rfl (by first | assumption | omega) (by first | assumption | omega) (fun qc_61 => ?_) (fun qc_61 => ?_)
          · refine q_iload (pc' := 85) 7 dX2_toBlame_83 rfl rfl ?_
            refine q_istoren (pc' := 86) (L' := [(2, q_i k), (7, q_i (s_dist φ k r h)), (6, q_i (s_up φ r h k)), (0, q_r Γ 14), (1, q_i r), (3, q_i hi), (4, q_i ne), (5, q_i k)]) dX2_toBlame_85 rfl rfl (by decide) rfl ?_
            refine q_iload (pc' := 88) 2 dX2_toBlame_86 rfl rfl ?_
            refine q_istoren (pc' := 89) (L' := [(3, q_i (s_up φ r h k)), (2, q_i k), (7, q_i (s_dist φ k r h)), (6, q_i (s_up φ r h k)), (0, q_r Γ 14), (1, q_i r), (4, q_i ne), (5, q_i k)]) dX2_toBlame_88 rfl rfl (by decide) rfl ?_
            refine q_iload (pc' := 91) 2 dX2_toBlame_89 rfl rfl ?_
            refine q_istore (pc' := 93) (L' := [(4, q_i (s_dist φ k r h)), (3, q_i (s_up φ r h k)), (2, q_i k), (7, q_i (s_dist φ k r h)), (6, q_i (s_up φ r h k)), (0, q_r Γ 14), (1, q_i r), (5, q_i k)]) dX2_toBlame_91 rfl (by decide) rfl ?_
            refine q_iinc (pc' := 96) 7 (L' := [(5, q_i (k + 1)), (4, q_i (s_dist φ k r h)), (3, q_i (s_up φ r h k)), (2, q_i k), (7, q_i (s_dist φ k r h)), (6, q_i (s_up φ r h k)), (0, q_r Γ 14), (1, q_i r)]) dX2_toBlame_93 rfl rfl (by decide) rfl ?_
            refine q_goto (pc' := 11) dX2_toBlame_96 rfl ?_
            refine p_sub [6, 7, 3, 2, 1, 0] rfl ?_
            exact qih_11 _ (by omega) _ _ _ _ (by first | assumption | omega) (by first | assumption | omega) (by rw [s_bN_s (by omega), ← qa_11_2, ← qa_11_3]; first | exact (q_if_t (by unfold s_more; omega)).symm | exact (q_if_f (by unfold s_more; omega)).symm) (by rw [s_bN_s (by omega), ← qa_11_2, ← qa_11_3]; first | exact (q_if_t (by unfold s_more; omega)).symm | exact (q_if_f (by unfold s_more; omega)).symm) (by first | assumption | omega) (by first | exact Or.inr rfl | assumption) rfl
          · refine q_iloadn (pc' := 65) 4 dX2_toBlame_64 rfl rfl ?_
            refine q_bipush (pc' := 67) dX2_toBlame_65 rfl rfl ?_
            refine q_icmp_eq (tgt := 93) (pc' := 70) dX2_toBlame_67 rfl rfl (by first | assumption | omega) (by decide) (fun qc_67 => ?_) (fun qc_67 => ?_)
            · refine q_iinc (pc' := 96) 7 (L' := [(5, q_i (k + 1)), (7, q_i (s_dist φ k r h)), (6, q_i (s_up φ r h k)), (0, q_r Γ 14), (1, q_i r), (2, q_i bl), (3, q_i hi), (4, q_i ne)]) dX2_toBlame_93 rfl rfl (by decide) rfl ?_
              refine q_goto (pc' := 11) dX2_toBlame_96 rfl ?_
              refine p_sub [3, 4, 5, 6, 7, 0] rfl ?_
              exact qih_11 _ (by omega) _ _ _ _ (by first | assumption | omega) (by first | assumption | omega) (by rw [s_bN_s (by omega), ← qa_11_2, ← qa_11_3]; first | exact (q_if_t (by unfold s_more; omega)).symm | exact (q_if_f (by unfold s_more; omega)).symm) (by rw [s_bN_s (by omega), ← qa_11_2, ← qa_11_3]; first | exact (q_if_t (by unfold s_more; omega)).symm | exact (q_if_f (by unfold s_more; omega)).symm) (by first | assumption | omega) (by first | exact Or.inr rfl | assumption) rfl
            · refine q_iload (pc' := 72) 1 dX2_toBlame_70 rfl rfl ?_
              refine q_iloadn (pc' := 73) 5 dX2_toBlame_72 rfl rfl ?_
              refine q_icmp_ne (tgt := 93) (pc' := 76) dX2_toBlame_73 rfl rfl (by first | assumption | omega) (by first | assumption | omega) (fun qc_73 => ?_) (fun qc_73 => ?_)
              · refine q_iinc (pc' := 96) 7 (L' := [(5, q_i (k + 1)), (7, q_i (s_dist φ k r h)), (6, q_i (s_up φ r h k)), (0, q_r Γ 14), (1, q_i r), (2, q_i bl), (3, q_i hi), (4, q_i ne)]) dX2_toBlame_93 rfl rfl (by decide) rfl ?_
                refine q_goto (pc' := 11) dX2_toBlame_96 rfl ?_
                refine p_sub [3, 4, 5, 6, 7, 0] rfl ?_
                exact qih_11 _ (by omega) _ _ _ _ (by first | assumption | omega) (by first | assumption | omega) (by rw [s_bN_s (by omega), ← qa_11_2, ← qa_11_3]; first | exact (q_if_t (by unfold s_more; omega)).symm | exact (q_if_f (by unfold s_more; omega)).symm) (by rw [s_bN_s (by omega), ← qa_11_2, ← qa_11_3]; first | exact (q_if_t (by unfold s_more; omega)).symm | exact (q_if_f (by unfold s_more; omega)).symm) (by first | assumption | omega) (by first | exact Or.inr rfl | assumption) rfl
              · refine q_iload (pc' := 78) 0 dX2_toBlame_76 rfl rfl ?_
                refine q_iload (pc' := 80) 6 dX2_toBlame_78 rfl rfl ?_
                refine q_icmp_ge (tgt := 93) (pc' := 83) dX2_toBlame_80 rfl rfl (by first | assumption | omega) (by first | assumption | omega) (fun qc_80 => ?_) (fun qc_80 => ?_)
                · refine q_iinc (pc' := 96) 7 (L' := [(5, q_i (k + 1)), (7, q_i (s_dist φ k r h)), (6, q_i (s_up φ r h k)), (0, q_r Γ 14), (1, q_i r), (2, q_i bl), (3, q_i hi), (4, q_i ne)]) dX2_toBlame_93 rfl rfl (by decide) rfl ?_
                  refine q_goto (pc' := 11) dX2_toBlame_96 rfl ?_
                  refine p_sub [3, 4, 5, 6, 7, 0] rfl ?_
                  exact qih_11 _ (by omega) _ _ _ _ (by first | assumption | omega) (by first | assumption | omega) (by rw [s_bN_s (by omega), ← qa_11_2, ← qa_11_3]; first | exact (q_if_t (by unfold s_more; omega)).symm | exact (q_if_f (by unfold s_more; omega)).symm) (by rw [s_bN_s (by omega), ← qa_11_2, ← qa_11_3]; first | exact (q_if_t (by unfold s_more; omega)).symm | exact (q_if_f (by unfold s_more; omega)).symm) (by first | assumption | omega) (by first | exact Or.inr rfl | assumption) rfl
                · refine q_iload (pc' := 85) 7 dX2_toBlame_83 rfl rfl ?_
                  refine q_istoren (pc' := 86) (L' := [(2, q_i k), (7, q_i (s_dist φ k r h)), (6, q_i (s_up φ r h k)), (0, q_r Γ 14), (1, q_i r), (3, q_i hi), (4, q_i ne), (5, q_i k)]) dX2_toBlame_85 rfl rfl (by decide) rfl ?_
                  refine q_iload (pc' := 88) 2 dX2_toBlame_86 rfl rfl ?_
                  refine q_istoren (pc' := 89) (L' := [(3, q_i (s_up φ r h k)), (2, q_i k), (7, q_i (s_dist φ k r h)), (6, q_i (s_up φ r h k)), (0, q_r Γ 14), (1, q_i r), (4, q_i ne), (5, q_i k)]) dX2_toBlame_88 rfl rfl (by decide) rfl ?_
                  refine q_iload (pc' := 91) 2 dX2_toBlame_89 rfl rfl ?_
                  refine q_istore (pc' := 93) (L' := [(4, q_i (s_dist φ k r h)), (3, q_i (s_up φ r h k)), (2, q_i k), (7, q_i (s_dist φ k r h)), (6, q_i (s_up φ r h k)), (0, q_r Γ 14), (1, q_i r), (5, q_i k)]) dX2_toBlame_91 rfl (by decide) rfl ?_
                  refine q_iinc (pc' := 96) 7 (L' := [(5, q_i (k + 1)), (4, q_i (s_dist φ k r h)), (3, q_i (s_up φ r h k)), (2, q_i k), (7, q_i (s_dist φ k r h)), (6, q_i (s_up φ r h k)), (0, q_r Γ 14), (1, q_i r)]) dX2_toBlame_93 rfl rfl (by decide) rfl ?_
                  refine q_goto (pc' := 11) dX2_toBlame_96 rfl ?_
                  refine p_sub [6, 7, 3, 2, 1, 0] rfl ?_
                  exact qih_11 _ (by omega) _ _ _ _ (by first | assumption | omega) (by first | assumption | omega) (by rw [s_bN_s (by omega), ← qa_11_2, ← qa_11_3]; first | exact (q_if_t (by unfold s_more; omega)).symm | exact (q_if_f (by unfold s_more; omega)).symm) (by rw [s_bN_s (by omega), ← qa_11_2, ← qa_11_3]; first | exact (q_if_t (by unfold s_more; omega)).symm | exact (q_if_f (by unfold s_more; omega)).symm) (by first | assumption | omega) (by first | exact Or.inr rfl | assumption) rfl
        · refine q_iconst (pc' := 30) dX2_toBlame_29 rfl ?_
          refine q_goto (pc' := 47) dX2_toBlame_30 rfl ?_
          refine p_eq (y := s_up φ r h k) (by first | exact (s_si_lss ok (by omega) (by omega)).trans (if_neg (by omega)).symm | exact (if_pos (by omega)).symm) ?_
          have ub := s_up_b ok (a := k) (r := r) (by omega) (by omega) (by omega) (by omega) h0 h1
          have f1 : 0 < s_up φ r h k → s_far φ k r = s_dist φ k r h := fun q => s_far_d q
          have db := s_dist_b ok h (a := k) (b := r) (by omega) (by omega) (by omega) (by omega)
          refine q_istore (pc' := 49) (L' := [(6, q_i (s_up φ r h k)), (0, q_r Γ 14), (1, q_i r), (2, q_i bl), (3, q_i hi), (4, q_i ne), (5, q_i k)]) dX2_toBlame_47 rfl (by decide) rfl ?_
          refine q_aloadn (pc' := 50) 1 dX2_toBlame_49 rfl rfl ?_
          refine q_iload (pc' := 52) 6 dX2_toBlame_50 rfl rfl ?_
          refine q_iloadn (pc' := 53) 2 dX2_toBlame_52 rfl rfl ?_
          refine q_callVI (pc' := 56) dX2_toBlame_53 rfl lX2_63 iX2_ahead kc14 rfl (c_X2_ahead (by first | assumption | omega) (by first | assumption | omega) (by first | assumption | omega) (by first | assumption | omega) (by first | assumption | omega) (by first | assumption | omega) (by first | assumption | omega) (by first | assumption | omega) (by first | assumption | omega)) rfl rfl (Nat.le_of_ble_eq_true rfl) (Nat.le_of_ble_eq_true rfl) (Nat.le_of_ble_eq_true rfl) ?_
          refine q_istore (pc' := 58) (L' := [(7, q_i (s_dist φ k r h)), (6, q_i (s_up φ r h k)), (0, q_r Γ 14), (1, q_i r), (2, q_i bl), (3, q_i hi), (4, q_i ne), (5, q_i k)]) dX2_toBlame_56 rfl (by decide) rfl ?_
          refine q_iload (pc' := 60) 1 dX2_toBlame_58 rfl rfl ?_
          refine q_iloadn (pc' := 61) 5 dX2_toBlame_60 rfl rfl ?_
          refine q_icmp_gt (tgt := 83) (pc' := 64) dX2_toBlame_61 rfl rfl (by first | assumption | omega) (by first | assumption | omega) (fun qc_61_1 => ?_) (fun qc_61_1 => ?_)
          · refine q_iload (pc' := 85) 7 dX2_toBlame_83 rfl rfl ?_
            refine q_istoren (pc' := 86) (L' := [(2, q_i k), (7, q_i (s_dist φ k r h)), (6, q_i (s_up φ r h k)), (0, q_r Γ 14), (1, q_i r), (3, q_i hi), (4, q_i ne), (5, q_i k)]) dX2_toBlame_85 rfl rfl (by decide) rfl ?_
            refine q_iload (pc' := 88) 2 dX2_toBlame_86 rfl rfl ?_
            refine q_istoren (pc' := 89) (L' := [(3, q_i (s_up φ r h k)), (2, q_i k), (7, q_i (s_dist φ k r h)), (6, q_i (s_up φ r h k)), (0, q_r Γ 14), (1, q_i r), (4, q_i ne), (5, q_i k)]) dX2_toBlame_88 rfl rfl (by decide) rfl ?_
            refine q_iload (pc' := 91) 2 dX2_toBlame_89 rfl rfl ?_
            refine q_istore (pc' := 93) (L' := [(4, q_i (s_dist φ k r h)), (3, q_i (s_up φ r h k)), (2, q_i k), (7, q_i (s_dist φ k r h)), (6, q_i (s_up φ r h k)), (0, q_r Γ 14), (1, q_i r), (5, q_i k)]) dX2_toBlame_91 rfl (by decide) rfl ?_
            refine q_iinc (pc' := 96) 7 (L' := [(5, q_i (k + 1)), (4, q_i (s_dist φ k r h)), (3, q_i (s_up φ r h k)), (2, q_i k), (7, q_i (s_dist φ k r h)), (6, q_i (s_up φ r h k)), (0, q_r Γ 14), (1, q_i r)]) dX2_toBlame_93 rfl rfl (by decide) rfl ?_
            refine q_goto (pc' := 11) dX2_toBlame_96 rfl ?_
            refine p_sub [6, 7, 3, 2, 1, 0] rfl ?_
            exact qih_11 _ (by omega) _ _ _ _ (by first | assumption | omega) (by first | assumption | omega) (by rw [s_bN_s (by omega), ← qa_11_2, ← qa_11_3]; first | exact (q_if_t (by unfold s_more; omega)).symm | exact (q_if_f (by unfold s_more; omega)).symm) (by rw [s_bN_s (by omega), ← qa_11_2, ← qa_11_3]; first | exact (q_if_t (by unfold s_more; omega)).symm | exact (q_if_f (by unfold s_more; omega)).symm) (by first | assumption | omega) (by first | exact Or.inr rfl | assumption) rfl
          · refine q_iloadn (pc' := 65) 4 dX2_toBlame_64 rfl rfl ?_
            refine q_bipush (pc' := 67) dX2_toBlame_65 rfl rfl ?_
            refine q_icmp_eq (tgt := 93) (pc' := 70) dX2_toBlame_67 rfl rfl (by first | assumption | omega) (by decide) (fun qc_67_1 => ?_) (fun qc_67_1 => ?_)
            · refine q_iinc (pc' := 96) 7 (L' := [(5, q_i (k + 1)), (7, q_i (s_dist φ k r h)), (6, q_i (s_up φ r h k)), (0, q_r Γ 14), (1, q_i r), (2, q_i bl), (3, q_i hi), (4, q_i ne)]) dX2_toBlame_93 rfl rfl (by decide) rfl ?_
              refine q_goto (pc' := 11) dX2_toBlame_96 rfl ?_
              refine p_sub [3, 4, 5, 6, 7, 0] rfl ?_
              exact qih_11 _ (by omega) _ _ _ _ (by first | assumption | omega) (by first | assumption | omega) (by rw [s_bN_s (by omega), ← qa_11_2, ← qa_11_3]; first | exact (q_if_t (by unfold s_more; omega)).symm | exact (q_if_f (by unfold s_more; omega)).symm) (by rw [s_bN_s (by omega), ← qa_11_2, ← qa_11_3]; first | exact (q_if_t (by unfold s_more; omega)).symm | exact (q_if_f (by unfold s_more; omega)).symm) (by first | assumption | omega) (by first | exact Or.inr rfl | assumption) rfl
            · refine q_iload (pc' := 72) 1 dX2_toBlame_70 rfl rfl ?_
              refine q_iloadn (pc' := 73) 5 dX2_toBlame_72 rfl rfl ?_
              refine q_icmp_ne (tgt := 93) (pc' := 76) dX2_toBlame_73 rfl rfl (by first | assumption | omega) (by first | assumption | omega) (fun qc_73_1 => ?_) (fun qc_73_1 => ?_)
              · refine q_iinc (pc' := 96) 7 (L' := [(5, q_i (k + 1)), (7, q_i (s_dist φ k r h)), (6, q_i (s_up φ r h k)), (0, q_r Γ 14), (1, q_i r), (2, q_i bl), (3, q_i hi), (4, q_i ne)]) dX2_toBlame_93 rfl rfl (by decide) rfl ?_
                refine q_goto (pc' := 11) dX2_toBlame_96 rfl ?_
                refine p_sub [3, 4, 5, 6, 7, 0] rfl ?_
                exact qih_11 _ (by omega) _ _ _ _ (by first | assumption | omega) (by first | assumption | omega) (by rw [s_bN_s (by omega), ← qa_11_2, ← qa_11_3]; first | exact (q_if_t (by unfold s_more; omega)).symm | exact (q_if_f (by unfold s_more; omega)).symm) (by rw [s_bN_s (by omega), ← qa_11_2, ← qa_11_3]; first | exact (q_if_t (by unfold s_more; omega)).symm | exact (q_if_f (by unfold s_more; omega)).symm) (by first | assumption | omega) (by first | exact Or.inr rfl | assumption) rfl
              · refine q_iload (pc' := 78) 0 dX2_toBlame_76 rfl rfl ?_
                refine q_iload (pc' := 80) 6 dX2_toBlame_78 rfl rfl ?_
                refine q_icmp_ge (tgt := 93) (pc' := 83) dX2_toBlame_80 rfl rfl (by first | assumption | omega) (by first | assumption | omega) (fun qc_80_1 => ?_) (fun qc_80_1 => ?_)
                · refine q_iinc (pc' := 96) 7 (L' := [(5, q_i (k + 1)), (7, q_i (s_dist φ k r h)), (6, q_i (s_up φ r h k)), (0, q_r Γ 14), (1, q_i r), (2, q_i bl), (3, q_i hi), (4, q_i ne)]) dX2_toBlame_93 rfl rfl (by decide) rfl ?_
                  refine q_goto (pc' := 11) dX2_toBlame_96 rfl ?_
                  refine p_sub [3, 4, 5, 6, 7, 0] rfl ?_
                  exact qih_11 _ (by omega) _ _ _ _ (by first | assumption | omega) (by first | assumption | omega) (by rw [s_bN_s (by omega), ← qa_11_2, ← qa_11_3]; first | exact (q_if_t (by unfold s_more; omega)).symm | exact (q_if_f (by unfold s_more; omega)).symm) (by rw [s_bN_s (by omega), ← qa_11_2, ← qa_11_3]; first | exact (q_if_t (by unfold s_more; omega)).symm | exact (q_if_f (by unfold s_more; omega)).symm) (by first | assumption | omega) (by first | exact Or.inr rfl | assumption) rfl
                · refine q_iload (pc' := 85) 7 dX2_toBlame_83 rfl rfl ?_
                  refine q_istoren (pc' := 86) (L' := [(2, q_i k), (7, q_i (s_dist φ k r h)), (6, q_i (s_up φ r h k)), (0, q_r Γ 14), (1, q_i r), (3, q_i hi), (4, q_i ne), (5, q_i k)]) dX2_toBlame_85 rfl rfl (by decide) rfl ?_
                  refine q_iload (pc' := 88) 2 dX2_toBlame_86 rfl rfl ?_
                  refine q_istoren (pc' := 89) (L' := [(3, q_i (s_up φ r h k)), (2, q_i k), (7, q_i (s_dist φ k r h)), (6, q_i (s_up φ r h k)), (0, q_r Γ 14), (1, q_i r), (4, q_i ne), (5, q_i k)]) dX2_toBlame_88 rfl rfl (by decide) rfl ?_
                  refine q_iload (pc' := 91) 2 dX2_toBlame_89 rfl rfl ?_
                  refine q_istore (pc' := 93) (L' := [(4, q_i (s_dist φ k r h)), (3, q_i (s_up φ r h k)), (2, q_i k), (7, q_i (s_dist φ k r h)), (6, q_i (s_up φ r h k)), (0, q_r Γ 14), (1, q_i r), (5, q_i k)]) dX2_toBlame_91 rfl (by decide) rfl ?_
                  refine q_iinc (pc' := 96) 7 (L' := [(5, q_i (k + 1)), (4, q_i (s_dist φ k r h)), (3, q_i (s_up φ r h k)), (2, q_i k), (7, q_i (s_dist φ k r h)), (6, q_i (s_up φ r h k)), (0, q_r Γ 14), (1, q_i r)]) dX2_toBlame_93 rfl rfl (by decide) rfl ?_
                  refine q_goto (pc' := 11) dX2_toBlame_96 rfl ?_
                  refine p_sub [6, 7, 3, 2, 1, 0] rfl ?_
                  exact qih_11 _ (by omega) _ _ _ _ (by first | assumption | omega) (by first | assumption | omega) (by rw [s_bN_s (by omega), ← qa_11_2, ← qa_11_3]; first | exact (q_if_t (by unfold s_more; omega)).symm | exact (q_if_f (by unfold s_more; omega)).symm) (by rw [s_bN_s (by omega), ← qa_11_2, ← qa_11_3]; first | exact (q_if_t (by unfold s_more; omega)).symm | exact (q_if_f (by unfold s_more; omega)).symm) (by first | assumption | omega) (by first | exact Or.inr rfl | assumption) rfl
  refine p_sub [4, 5, 3, 2, 1, 0] rfl ?_
  exact qlp_11 _ _ _ _ _ (by first | assumption | omega) (by first | assumption | omega) (by rfl) (by rfl) (by first | assumption | omega) (by exact Or.inl rfl) rfl
set_option maxRecDepth 20000 in
set_option maxHeartbeats 4000000 in
theorem c_X2_shade {Γ : q_G} {S : q_S} {φ : Int → Int} {h : Int} {r : Int} (FF : s_F S 1 φ) (ok : s_ok φ) (LK : s_lk S φ h) (h0 : 0 ≤ h) (h1 : h < 10) (r0 : 0 ≤ r) (r1 : r < φ 0) : q_Sp Γ mX2_shade 3 0 0 [q_r Γ 14, q_i r] (KC, S) (q_ev (some (q_i (s_shd φ r h))) (KC, S)) := by
  show q_Go Γ mX2_shade 3 0 0 0 [(0, q_r Γ 14), (1, q_i r)] [] (KC, S) (q_ev (some (q_i (s_shd φ r h))) (KC, S))
  have rw0 := s_rows_b ok
  have bb := s_bl_b ok r0 (show r < 6 by omega) h0 h1
  have hb := s_he_b ok h r0 (show r < 6 by omega)
  refine q_aloadn (pc' := 1) 0 dX2_shade_0 rfl rfl ?_
  refine q_iloadn (pc' := 2) 1 dX2_shade_1 rfl rfl ?_
  refine q_callVI (pc' := 5) dX2_shade_2 rfl lX2_94 iX2_toBlame kc14 rfl (c_X2_toBlame (by first | assumption | omega) (by first | assumption | omega) (by first | assumption | omega) (by first | assumption | omega) (by first | assumption | omega) (by first | assumption | omega) (by first | assumption | omega)) rfl rfl (Nat.le_of_ble_eq_true rfl) (Nat.le_of_ble_eq_true rfl) (Nat.le_of_ble_eq_true rfl) ?_
  refine q_istoren (pc' := 6) (L' := [(2, q_i (s_bl φ r h)), (0, q_r Γ 14), (1, q_i r)]) dX2_shade_5 rfl rfl (by decide) rfl ?_
  refine q_iloadn (pc' := 7) 0 dX2_shade_6 rfl rfl ?_
  refine q_bipush (pc' := 9) dX2_shade_7 rfl rfl ?_
  refine q_icmp_ne (tgt := 16) (pc' := 12) dX2_shade_9 rfl rfl (by first | assumption | omega) (by decide) (fun qc_9 => ?_) (fun qc_9 => ?_)
  · refine q_aloadn (pc' := 17) 1 dX2_shade_16 rfl rfl ?_
    refine p_getR (pc' := 20) (f := 17) dX2_shade_17 rfl fX2_22 kc14 rfl ?_
    refine q_iloadn (pc' := 21) 2 dX2_shade_20 rfl rfl ?_
    refine p_iald (pc' := 22) dX2_shade_21 rfl kc17 (by first | assumption | omega) (by first | assumption | omega) (by decide) (fun qy_21 eqy_21 rqy_21 => ?_)
    have e1 : qy_21 = s_he φ r h := by rw [eqy_21]; exact (LK.2.2 r (by omega) (by omega)).2
    rw [e1]
    refine q_aloadn (pc' := 23) 1 dX2_shade_22 rfl rfl ?_
    refine q_iloadn (pc' := 24) 0 dX2_shade_23 rfl rfl ?_
    refine q_iloadn (pc' := 25) 2 dX2_shade_24 rfl rfl ?_
    refine q_aloadn (pc' := 26) 1 dX2_shade_25 rfl rfl ?_
    refine p_getR (pc' := 29) (f := 17) dX2_shade_26 rfl fX2_22 kc14 rfl ?_
    refine q_iloadn (pc' := 30) 0 dX2_shade_29 rfl rfl ?_
    refine p_iald (pc' := 31) dX2_shade_30 rfl kc17 (by first | assumption | omega) (by first | assumption | omega) (by decide) (fun qy_30 eqy_30 rqy_30 => ?_)
    have e2 : qy_30 = s_he φ (s_bl φ r h) h := by rw [eqy_30]; exact (LK.2.2 (s_bl φ r h) (by omega) (by omega)).2
    have hb2 := s_he_b ok h (r := s_bl φ r h) (by omega) (by omega)
    rw [e2]
    refine q_callVI (pc' := 34) dX2_shade_31 rfl lX2_91 iX2_shadow kc14 rfl (c_X2_shadow (by first | assumption | omega) (by first | assumption | omega) (by first | assumption | omega) (by first | assumption | omega) (by first | assumption | omega) (by first | assumption | omega) (by first | assumption | omega) (by first | assumption | omega) (by first | assumption | omega) (by first | assumption | omega) (by first | assumption | omega)) rfl rfl (Nat.le_of_ble_eq_true rfl) (Nat.le_of_ble_eq_true rfl) (Nat.le_of_ble_eq_true rfl) ?_
    refine p_eq (s_si_lss ok (by omega) (by omega)) ?_
    have sb := s_si_b ok (a := s_bl φ r h) (b := r) (by omega) (by omega) (by omega) (by omega) h0 h1
    refine p_min (pc' := 37) dX2_shade_34 rfl wX2_80 (Nat.le_of_ble_eq_true rfl) (Nat.le_of_ble_eq_true rfl) (by first | assumption | omega) (by first | assumption | omega) (fun qy_34 eqy_34 => ?_)
    refine p_iret dX2_shade_37 rfl ?_ ?_
    · unfold s_shd; omega
    · rfl
  · refine q_iconst (pc' := 13) dX2_shade_12 rfl ?_
    refine q_goto (pc' := 37) dX2_shade_13 rfl ?_
    refine p_iret dX2_shade_37 rfl ?_ ?_
    · unfold s_shd; omega
    · rfl
set_option maxRecDepth 20000 in
set_option maxHeartbeats 4000000 in
theorem c_X2_unshadedYield {Γ : q_G} {S : q_S} {φ : Int → Int} {h : Int} {r : Int} (FF : s_F S 1 φ) (ok : s_ok φ) (LK : s_lk S φ h) (h0 : 0 ≤ h) (h1 : h < 10) (r0 : 0 ≤ r) (r1 : r < φ 0) : q_Sp Γ mX2_unshadedYield 1 0 0 [q_r Γ 14, q_i r] (KC, S) (q_ev (some (q_i (s_he φ r h * s_sun h + s_pt φ r 1))) (KC, S)) := by
  show q_Go Γ mX2_unshadedYield 1 0 0 0 [(0, q_r Γ 14), (1, q_i r)] [] (KC, S) (q_ev (some (q_i (s_he φ r h * s_sun h + s_pt φ r 1))) (KC, S))
  have rw0 := s_rows_b ok
  have hH : S 14 1 = h := LK.1
  refine q_aloadn (pc' := 1) 0 dX2_unshadedYield_0 rfl rfl ?_
  refine p_getR (pc' := 4) (f := 17) dX2_unshadedYield_1 rfl fX2_22 kc14 rfl ?_
  refine q_iloadn (pc' := 5) 1 dX2_unshadedYield_4 rfl rfl ?_
  refine p_iald (pc' := 6) dX2_unshadedYield_5 rfl kc17 (by first | assumption | omega) (by first | assumption | omega) (by decide) (fun qy_5 eqy_5 rqy_5 => ?_)
  have e1 : qy_5 = s_he φ r h := by rw [eqy_5]; exact (LK.2.2 r (by omega) (by omega)).2
  rw [e1]
  refine q_aloadn (pc' := 7) 0 dX2_unshadedYield_6 rfl rfl ?_
  refine q_callVI (pc' := 10) dX2_unshadedYield_7 rfl lX2_97 iX2_sun kc14 rfl (c_X2_sun (by first | assumption | omega) (by first | assumption | omega) (by first | assumption | omega) (by first | assumption | omega) (by first | assumption | omega)) rfl rfl (Nat.le_of_ble_eq_true rfl) (Nat.le_of_ble_eq_true rfl) (Nat.le_of_ble_eq_true rfl) ?_
  refine q_imul (pc' := 11) dX2_unshadedYield_10 rfl ?_
  refine q_aloadn (pc' := 12) 0 dX2_unshadedYield_11 rfl rfl ?_
  refine p_getR (pc' := 15) (f := 1) dX2_unshadedYield_12 rfl fX2_28 kc14 rfl ?_
  refine p_getR (pc' := 18) (f := 3) dX2_unshadedYield_15 rfl fX2_45 kc1 rfl ?_
  refine q_iloadn (pc' := 19) 1 dX2_unshadedYield_18 rfl rfl ?_
  refine p_iald (pc' := 20) dX2_unshadedYield_19 rfl kc3 (by first | assumption | omega) (by first | assumption | omega) (by decide) (fun qy_19 eqy_19 rqy_19 => ?_)
  have vqy_19 : qy_19 = s_pt φ (r) 1 := eqy_19.trans (s_F_3 FF (by first | assumption | omega) (by first | assumption | omega))
  rw [vqy_19]
  refine q_iadd (pc' := 21) dX2_unshadedYield_20 rfl ?_
  refine p_iret dX2_unshadedYield_21 rfl ?_ ?_
  · rfl
  · rfl
set_option maxRecDepth 20000 in
set_option maxHeartbeats 4000000 in
theorem c_X2_yieldNow {Γ : q_G} {S : q_S} {φ : Int → Int} {h : Int} {r : Int} (FF : s_F S 1 φ) (ok : s_ok φ) (LK : s_lk S φ h) (h0 : 0 ≤ h) (h1 : h < 10) (r0 : 0 ≤ r) (r1 : r < φ 0) : q_Sp Γ mX2_yieldNow 4 0 0 [q_r Γ 14, q_i r] (KC, S) (q_ev (some (q_i (s_y φ r h))) (KC, S)) := by
  show q_Go Γ mX2_yieldNow 4 0 0 0 [(0, q_r Γ 14), (1, q_i r)] [] (KC, S) (q_ev (some (q_i (s_y φ r h))) (KC, S))
  have rw0 := s_rows_b ok
  have hH : S 14 1 = h := LK.1
  refine q_aloadn (pc' := 1) 0 dX2_yieldNow_0 rfl rfl ?_
  refine q_iloadn (pc' := 2) 1 dX2_yieldNow_1 rfl rfl ?_
  refine q_callVI (pc' := 5) dX2_yieldNow_2 rfl lX2_101 iX2_unshadedYield kc14 rfl (c_X2_unshadedYield (by first | assumption | omega) (by first | assumption | omega) (by first | assumption | omega) (by first | assumption | omega) (by first | assumption | omega) (by first | assumption | omega) (by first | assumption | omega)) rfl rfl (Nat.le_of_ble_eq_true rfl) (Nat.le_of_ble_eq_true rfl) (Nat.le_of_ble_eq_true rfl) ?_
  refine q_aloadn (pc' := 6) 0 dX2_yieldNow_5 rfl rfl ?_
  refine q_iloadn (pc' := 7) 1 dX2_yieldNow_6 rfl rfl ?_
  refine q_callVI (pc' := 10) dX2_yieldNow_7 rfl lX2_104 iX2_shade kc14 rfl (c_X2_shade (by first | assumption | omega) (by first | assumption | omega) (by first | assumption | omega) (by first | assumption | omega) (by first | assumption | omega) (by first | assumption | omega) (by first | assumption | omega)) rfl rfl (Nat.le_of_ble_eq_true rfl) (Nat.le_of_ble_eq_true rfl) (Nat.le_of_ble_eq_true rfl) ?_
  refine q_aloadn (pc' := 11) 0 dX2_yieldNow_10 rfl rfl ?_
  refine q_callVI (pc' := 14) dX2_yieldNow_11 rfl lX2_97 iX2_sun kc14 rfl (c_X2_sun (by first | assumption | omega) (by first | assumption | omega) (by first | assumption | omega) (by first | assumption | omega) (by first | assumption | omega)) rfl rfl (Nat.le_of_ble_eq_true rfl) (Nat.le_of_ble_eq_true rfl) (Nat.le_of_ble_eq_true rfl) ?_
  refine q_imul (pc' := 15) dX2_yieldNow_14 rfl ?_
  refine q_isub (pc' := 16) dX2_yieldNow_15 rfl ?_
  refine p_iret dX2_yieldNow_16 rfl ?_ ?_
  · unfold s_y; rw [Int.sub_mul]; omega
  · rfl
