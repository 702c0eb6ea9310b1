set_option maxRecDepth 20000 in
set_option maxHeartbeats 4000000 in
theorem c_L_hour {Γ : q_G} {K : List q_K} {S : q_S} {i : Int} (i0 : 0 ≤ i) (i1 : i < 3) : q_Sp Γ mL_hour 0 0 0 [q_i i] (K, S) (q_ev (some (q_i (w_h i))) (K, S)) := by
  show q_Go Γ mL_hour 0 0 0 0 [(0, q_i i)] [] (K, S) (q_ev (some (q_i (w_h i))) (K, S))
  refine q_iloadn (pc' := 1) 0 dL_hour_0 rfl rfl ?_
  refine q_if_ne (tgt := 8) (pc' := 4) dL_hour_1 rfl rfl (by first | assumption | omega) (fun qc_1 => ?_) (fun qc_1 => ?_)
  · refine q_iloadn (pc' := 9) 0 dL_hour_8 rfl rfl ?_
    refine q_iconst (pc' := 10) dL_hour_9 rfl ?_
    refine q_icmp_ne (tgt := 17) (pc' := 13) dL_hour_10 rfl rfl (by first | assumption | omega) (by decide) (fun qc_10 => ?_) (fun qc_10 => ?_)
    · refine q_bipush (pc' := 19) dL_hour_17 rfl rfl ?_
      refine p_iret dL_hour_19 rfl ?_ ?_
      · unfold w_h; omega
      · rfl
    · refine q_iconst (pc' := 14) dL_hour_13 rfl ?_
      refine q_goto (pc' := 19) dL_hour_14 rfl ?_
      refine p_iret dL_hour_19 rfl ?_ ?_
      · unfold w_h; omega
      · rfl
  · refine q_iconst (pc' := 5) dL_hour_4 rfl ?_
    refine q_goto (pc' := 19) dL_hour_5 rfl ?_
    refine p_iret dL_hour_19 rfl ?_ ?_
    · unfold w_h; omega
    · rfl
set_option maxRecDepth 20000 in
set_option maxHeartbeats 4000000 in
theorem c_L_shadow {Γ : q_G} {S : q_S} {φ : Int → Int} {a t b i : Int} (H : w_R S φ) (ok : s_ok φ) (a0 : 0 ≤ a) (a1 : a < 4) (t0 : 0 ≤ t) (t1 : t ≤ 4) (b0 : 0 ≤ b) (b1 : b < 4) (i0 : 0 ≤ i) (i1 : i < 3) : q_Sp Γ mL_shadow 0 0 0 [q_i a, q_i t, q_i b, q_i i, q_r Γ 151] (KC, S) (q_ev (some (q_i (s_sh φ a t b (w_h i)))) (KC, S)) := by
  show q_Go Γ mL_shadow 0 0 0 0 [(0, q_i a), (1, q_i t), (2, q_i b), (3, q_i i), (4, q_r Γ 151)] [] (KC, S) (q_ev (some (q_i (s_sh φ a t b (w_h i)))) (KC, S))
  have pa := s_pt_b ok (r := a) a0 (by omega)
  have pb := s_pt_b ok (r := b) b0 (by omega)
  have wb := w_h_b i
  have sb := s_slope_b wb.1 wb.2
  have hm := q_mulb pa.2.1.1 pa.2.1.2 t0 t1
  have db := s_dist_b ok (w_h i) a0 (show a < 6 by omega) b0 (show b < 6 by omega)
  have qlp_19 : ∀ (sl : Int), (sl = s_slope (w_h i)) → q_Go Γ mL_shadow 0 0 0 19 [(0, q_i a), (1, q_i t), (2, q_i b), (3, q_i i), (4, q_r Γ 151)] [q_i sl] (KC, S) (q_ev (some (q_i (s_sh φ a t b (w_h i)))) (KC, S)) := by
    intro sl qa_19_0
    refine q_istore (pc' := 21) (L' := [(5, q_i sl), (0, q_i a), (1, q_i t), (2, q_i b), (3, q_i i), (4, q_r Γ 151)]) dL_shadow_19 rfl (by decide) rfl ?_
    have qlp_55 : ∀ (d : Int), (d = s_dist φ a b (w_h i)) → q_Go Γ mL_shadow 0 0 0 55 [(0, q_i a), (1, q_i t), (2, q_i b), (3, q_i i), (4, q_r Γ 151), (5, q_i sl)] [q_i d] (KC, S) (q_ev (some (q_i (s_sh φ a t b (w_h i)))) (KC, S)) := by
      intro d qa_55_0
      refine q_istore (pc' := 57) (L' := [(6, q_i d), (0, q_i a), (1, q_i t), (2, q_i b), (3, q_i i), (4, q_r Γ 151), (5, q_i sl)]) dL_shadow_55 rfl (by decide) rfl ?_
      refine q_iload (pc' := 59) 0 dL_shadow_57 rfl rfl ?_
      refine q_iconst (pc' := 60) dL_shadow_59 rfl ?_
      refine q_icmp_ge (tgt := 65) (pc' := 63) dL_shadow_60 rfl rfl (by first | assumption | omega) (by decide) (fun qc_60 => ?_) (fun qc_60 => ?_)
      · refine q_iconst (pc' := 66) dL_shadow_65 rfl ?_
        refine q_istore (pc' := 68) (L' := [(7, q_i 0), (6, q_i d), (0, q_i a), (1, q_i t), (2, q_i b), (3, q_i i), (4, q_r Γ 151), (5, q_i sl)]) dL_shadow_66 rfl (by decide) rfl ?_
        have qlp_68 : ∀ (qn_68 : Nat) (k : Int), (0 ≤ k) → (k * sl < 2 * d + sl) → (k ≤ 2 * d) → ((2 * d - k).toNat) = qn_68 → q_Go Γ mL_shadow 0 0 0 68 [(0, q_i a), (1, q_i t), (2, q_i b), (3, q_i i), (4, q_r Γ 151), (5, q_i sl), (6, q_i d), (7, q_i k)] [] (KC, S) (q_ev (some (q_i (s_sh φ a t b (w_h i)))) (KC, S)) := by
          intro qn_68
          induction qn_68 using Nat.strongRecOn with
          | ind qn_68 qih_68 =>
            intro k qa_68_0 qa_68_1 qa_68_2 qhn_68
            subst qhn_68
            have hkl := w_kle (k := k) (s := sl) (by omega) (by omega)
            refine q_iload (pc' := 70) 7 dL_shadow_68 rfl rfl ?_
            refine q_iload (pc' := 72) 5 dL_shadow_70 rfl rfl ?_
            refine q_imul (pc' := 73) dL_shadow_72 rfl ?_
            refine q_iconst (pc' := 74) dL_shadow_73 rfl ?_
            refine q_iload (pc' := 76) 6 dL_shadow_74 rfl rfl ?_
            refine q_imul (pc' := 77) dL_shadow_76 rfl ?_
            refine q_icmp_ge (tgt := 86) (pc' := 80) dL_shadow_77 rfl rfl (by first | assumption | omega) (by first | assumption | omega) (fun qc_77 => ?_) (fun qc_77 => ?_)
            · have hl : s_loss φ a b (w_h i) = k := by unfold s_loss; rw [← qa_19_0, ← qa_55_0]; exact w_ceil (by omega) (by omega) (by omega)
              refine q_aload (pc' := 88) 4 dL_shadow_86 rfl rfl ?_
              refine q_iconst (pc' := 89) dL_shadow_88 rfl ?_
              refine q_iloadn (pc' := 90) 0 dL_shadow_89 rfl rfl ?_
              refine q_imul (pc' := 91) dL_shadow_90 rfl ?_
              refine q_iconst (pc' := 92) dL_shadow_91 rfl ?_
              refine q_iadd (pc' := 93) dL_shadow_92 rfl ?_
              refine p_iald (pc' := 94) dL_shadow_93 rfl kc151 (by first | assumption | omega) (by first | assumption | omega) (by decide) (fun qy_93 eqy_93 rqy_93 => ?_)
              have vqy_93 : qy_93 = s_pt φ a 1 := eqy_93.trans (w_pt H (by first | assumption | omega) (by first | assumption | omega) (by first | assumption | omega) (by first | assumption | omega))
              rw [vqy_93]
              refine q_iloadn (pc' := 95) 1 dL_shadow_94 rfl rfl ?_
              refine q_imul (pc' := 96) dL_shadow_95 rfl ?_
              refine q_iload (pc' := 98) 7 dL_shadow_96 rfl rfl ?_
              refine q_isub (pc' := 99) dL_shadow_98 rfl ?_
              refine q_istore (pc' := 101) (L' := [(8, q_i (((s_pt φ a 1) * t) - k)), (0, q_i a), (1, q_i t), (2, q_i b), (3, q_i i), (4, q_r Γ 151), (5, q_i sl), (6, q_i d), (7, q_i k)]) dL_shadow_99 rfl (by decide) rfl ?_
              refine q_iload (pc' := 103) 0 dL_shadow_101 rfl rfl ?_
              refine q_if_ge (tgt := 110) (pc' := 106) dL_shadow_103 rfl rfl (by first | assumption | omega) (fun qc_103 => ?_) (fun qc_103 => ?_)
              · refine q_iload (pc' := 112) 0 dL_shadow_110 rfl rfl ?_
                refine p_iret dL_shadow_112 rfl ?_ ?_
                · unfold s_sh; omega
                · rfl
              · refine q_iconst (pc' := 107) dL_shadow_106 rfl ?_
                refine q_goto (pc' := 112) dL_shadow_107 rfl ?_
                refine p_iret dL_shadow_112 rfl ?_ ?_
                · unfold s_sh; omega
                · rfl
            · refine q_iinc (pc' := 83) 7 (L' := [(7, q_i (k + 1)), (0, q_i a), (1, q_i t), (2, q_i b), (3, q_i i), (4, q_r Γ 151), (5, q_i sl), (6, q_i d)]) dL_shadow_80 rfl rfl (by decide) rfl ?_
              refine q_goto (pc' := 68) dL_shadow_83 rfl ?_
              refine p_sub [1, 2, 3, 4, 5, 6, 7, 0] rfl ?_
              exact qih_68 _ (by omega) _ (by first | assumption | omega) (by rw [Int.add_mul, Int.one_mul]; omega) (by first | assumption | omega) rfl
        refine p_sub [2, 3, 4, 5, 6, 7, 1, 0] rfl ?_
        exact qlp_68 _ _ (by first | assumption | omega) (by rw [Int.zero_mul]; omega) (by first | assumption | omega) rfl
      · refine q_iconst (pc' := 64) dL_shadow_63 rfl ?_
        refine p_iret dL_shadow_64 rfl ?_ ?_
        · unfold s_sh; omega
        · rfl
    refine q_iloadn (pc' := 22) 4 dL_shadow_21 rfl rfl ?_
    refine q_iconst (pc' := 23) dL_shadow_22 rfl ?_
    refine q_icmp_ge (tgt := 42) (pc' := 26) dL_shadow_23 rfl rfl (by first | assumption | omega) (by decide) (fun qc_23 => ?_) (fun qc_23 => ?_)
    · refine q_aload (pc' := 44) 5 dL_shadow_42 rfl rfl ?_
      refine q_iconst (pc' := 45) dL_shadow_44 rfl ?_
      refine q_iloadn (pc' := 46) 1 dL_shadow_45 rfl rfl ?_
      refine q_imul (pc' := 47) dL_shadow_46 rfl ?_
      refine p_iald (pc' := 48) dL_shadow_47 rfl kc151 (by first | assumption | omega) (by first | assumption | omega) (by decide) (fun qy_47 eqy_47 rqy_47 => ?_)
      have vqy_47 : qy_47 = s_pt φ a 0 := eqy_47.trans (w_pt0 H (by first | assumption | omega) (by first | assumption | omega))
      rw [vqy_47]
      refine q_aload (pc' := 50) 5 dL_shadow_48 rfl rfl ?_
      refine q_iconst (pc' := 51) dL_shadow_50 rfl ?_
      refine q_iloadn (pc' := 52) 3 dL_shadow_51 rfl rfl ?_
      refine q_imul (pc' := 53) dL_shadow_52 rfl ?_
      refine p_iald (pc' := 54) dL_shadow_53 rfl kc151 (by first | assumption | omega) (by first | assumption | omega) (by decide) (fun qy_53 eqy_53 rqy_53 => ?_)
      have vqy_53 : qy_53 = s_pt φ b 0 := eqy_53.trans (w_pt0 H (by first | assumption | omega) (by first | assumption | omega))
      rw [vqy_53]
      refine q_isub (pc' := 55) dL_shadow_54 rfl ?_
      refine p_sub [1, 2, 3, 4, 5, 0] rfl ?_
      exact qlp_55 _ (by unfold s_dist w_h; omega)
    · refine q_aload (pc' := 28) 5 dL_shadow_26 rfl rfl ?_
      refine q_iconst (pc' := 29) dL_shadow_28 rfl ?_
      refine q_iloadn (pc' := 30) 3 dL_shadow_29 rfl rfl ?_
      refine q_imul (pc' := 31) dL_shadow_30 rfl ?_
      refine p_iald (pc' := 32) dL_shadow_31 rfl kc151 (by first | assumption | omega) (by first | assumption | omega) (by decide) (fun qy_31 eqy_31 rqy_31 => ?_)
      have vqy_31 : qy_31 = s_pt φ b 0 := eqy_31.trans (w_pt0 H (by first | assumption | omega) (by first | assumption | omega))
      rw [vqy_31]
      refine q_aload (pc' := 34) 5 dL_shadow_32 rfl rfl ?_
      refine q_iconst (pc' := 35) dL_shadow_34 rfl ?_
      refine q_iloadn (pc' := 36) 1 dL_shadow_35 rfl rfl ?_
      refine q_imul (pc' := 37) dL_shadow_36 rfl ?_
      refine p_iald (pc' := 38) dL_shadow_37 rfl kc151 (by first | assumption | omega) (by first | assumption | omega) (by decide) (fun qy_37 eqy_37 rqy_37 => ?_)
      have vqy_37 : qy_37 = s_pt φ a 0 := eqy_37.trans (w_pt0 H (by first | assumption | omega) (by first | assumption | omega))
      rw [vqy_37]
      refine q_isub (pc' := 39) dL_shadow_38 rfl ?_
      refine q_goto (pc' := 55) dL_shadow_39 rfl ?_
      refine p_sub [1, 2, 3, 4, 5, 0] rfl ?_
      exact qlp_55 _ (by unfold s_dist w_h; omega)
  refine q_iloadn (pc' := 1) 3 dL_shadow_0 rfl rfl ?_
  refine q_if_ne (tgt := 9) (pc' := 4) dL_shadow_1 rfl rfl (by first | assumption | omega) (fun qc_1 => ?_) (fun qc_1 => ?_)
  · refine q_iloadn (pc' := 10) 3 dL_shadow_9 rfl rfl ?_
    refine q_iconst (pc' := 11) dL_shadow_10 rfl ?_
    refine q_icmp_ne (tgt := 18) (pc' := 14) dL_shadow_11 rfl rfl (by first | assumption | omega) (by decide) (fun qc_11 => ?_) (fun qc_11 => ?_)
    · refine q_iconst (pc' := 19) dL_shadow_18 rfl ?_
      refine p_sub [0, 1, 2, 3, 4] rfl ?_
      exact qlp_19 _ (by unfold s_slope w_h; omega)
    · refine q_iconst (pc' := 15) dL_shadow_14 rfl ?_
      refine q_goto (pc' := 19) dL_shadow_15 rfl ?_
      refine p_sub [0, 1, 2, 3, 4] rfl ?_
      exact qlp_19 _ (by unfold s_slope w_h; omega)
  · refine q_bipush (pc' := 6) dL_shadow_4 rfl rfl ?_
    refine q_goto (pc' := 19) dL_shadow_6 rfl ?_
    refine p_sub [0, 1, 2, 3, 4] rfl ?_
    exact qlp_19 _ (by unfold s_slope w_h; omega)
set_option maxRecDepth 20000 in
set_option maxHeartbeats 4000000 in
theorem c_L_lies {Γ : q_G} {S : q_S} {φ : Int → Int} {a own i : Int} (H : w_R S φ) (ok : s_ok φ) (a0 : 0 ≤ a) (a1 : a < 4) (o0 : 0 ≤ own) (o1 : own ≤ 4) (i0 : 0 ≤ i) (i1 : i < 3) : q_Sp Γ mL_lies 1 0 0 [q_i a, q_i own, q_i i, q_r Γ 151, q_r Γ 152, q_r Γ 153] (KC, S) (q_ev (some (q_i (s_ti φ a own (w_h i)))) (KC, S)) := by
  show q_Go Γ mL_lies 1 0 0 0 [(0, q_i a), (1, q_i own), (2, q_i i), (3, q_r Γ 151), (4, q_r Γ 152), (5, q_r Γ 153)] [] (KC, S) (q_ev (some (q_i (s_ti φ a own (w_h i)))) (KC, S))
  have wb := w_h_b i
  have k1 := ok.2.1
  have k5 := ok.2.2.2.2.1 (w_h i) wb.1 wb.2
  have hr := H.1
  have hkp : ∀ t, s_keeps φ a t (w_h i) ↔ s_kN φ a t (w_h i) 4 := fun t => by unfold s_keeps s_kN; rw [hr]
  refine q_aload (pc' := 2) 5 dL_lies_0 rfl rfl ?_
  refine q_iloadn (pc' := 3) 2 dL_lies_2 rfl rfl ?_
  refine p_iald (pc' := 4) dL_lies_3 rfl kc153 (by first | assumption | omega) (by first | assumption | omega) (by decide) (fun qy_3 eqy_3 rqy_3 => ?_)
  have vqy_3 : qy_3 = φ (5 + w_h i) := eqy_3.trans (w_wi H (by first | assumption | omega) (by first | assumption | omega))
  rw [vqy_3]
  refine q_aload (pc' := 6) 5 dL_lies_4 rfl rfl ?_
  refine q_iconst (pc' := 7) dL_lies_6 rfl ?_
  refine p_iald (pc' := 8) dL_lies_7 rfl kc153 (by first | assumption | omega) (by first | assumption | omega) (by decide) (fun qy_7 eqy_7 rqy_7 => ?_)
  have vqy_7 : qy_7 = φ 1 := eqy_7.trans (w_w3 H)
  rw [vqy_7]
  refine q_icmp_lt (tgt := 13) (pc' := 11) dL_lies_8 rfl rfl (by first | assumption | omega) (by first | assumption | omega) (fun qc_8 => ?_) (fun qc_8 => ?_)
  · have hnf : ¬ s_flat φ (w_h i) := by unfold s_flat; omega
    refine q_iconst (pc' := 14) dL_lies_13 rfl ?_
    refine q_istore (pc' := 16) (L' := [(6, q_i 0), (0, q_i a), (1, q_i own), (2, q_i i), (3, q_r Γ 151), (4, q_r Γ 152), (5, q_r Γ 153)]) dL_lies_14 rfl (by decide) rfl ?_
    refine q_iconst (pc' := 17) dL_lies_16 rfl ?_
    refine q_istore (pc' := 19) (L' := [(7, q_i 1), (6, q_i 0), (0, q_i a), (1, q_i own), (2, q_i i), (3, q_r Γ 151), (4, q_r Γ 152), (5, q_r Γ 153)]) dL_lies_17 rfl (by decide) rfl ?_
    have qlp_19 : ∀ (qn_19 : Nat) (best t : Int), (1 ≤ t) → (t ≤ own + 1) → (best = s_dn (fun t => s_keeps φ a t (w_h i)) (t - 1).toNat) → ((5 - t).toNat) = qn_19 → q_Go Γ mL_lies 1 0 0 19 [(0, q_i a), (1, q_i own), (2, q_i i), (3, q_r Γ 151), (4, q_r Γ 152), (5, q_r Γ 153), (6, q_i best), (7, q_i t)] [] (KC, S) (q_ev (some (q_i (s_ti φ a own (w_h i)))) (KC, S)) := by
      intro qn_19
      induction qn_19 using Nat.strongRecOn with
      | ind qn_19 qih_19 =>
        intro best t qa_19_0 qa_19_1 qa_19_2 qhn_19
        subst qhn_19
        refine q_iload (pc' := 21) 7 dL_lies_19 rfl rfl ?_
        refine q_iloadn (pc' := 22) 1 dL_lies_21 rfl rfl ?_
        refine q_icmp_gt (tgt := 108) (pc' := 25) dL_lies_22 rfl rfl (by first | assumption | omega) (by first | assumption | omega) (fun qc_22 => ?_) (fun qc_22 => ?_)
        · refine q_iload (pc' := 110) 6 dL_lies_108 rfl rfl ?_
          refine p_iret dL_lies_110 rfl ?_ ?_
          · rw [qa_19_2, show (t - 1).toNat = own.toNat by omega]; exact (q_if_f hnf).symm
          · rfl
        · refine q_iconst (pc' := 26) dL_lies_25 rfl ?_
          refine q_istore (pc' := 28) (L' := [(8, q_i 1), (0, q_i a), (1, q_i own), (2, q_i i), (3, q_r Γ 151), (4, q_r Γ 152), (5, q_r Γ 153), (6, q_i best), (7, q_i t)]) dL_lies_26 rfl (by decide) rfl ?_
          refine q_iconst (pc' := 29) dL_lies_28 rfl ?_
          refine q_istore (pc' := 31) (L' := [(9, q_i 0), (8, q_i 1), (0, q_i a), (1, q_i own), (2, q_i i), (3, q_r Γ 151), (4, q_r Γ 152), (5, q_r Γ 153), (6, q_i best), (7, q_i t)]) dL_lies_29 rfl (by decide) rfl ?_
          have qlp_31 : ∀ (qn_31 : Nat) (is b : Int), (0 ≤ b) → (b ≤ 4) → ((is = 1 ∧ s_kN φ a t (w_h i) b) ∨ (is = 0 ∧ ¬ s_kN φ a t (w_h i) b)) → ((4 - b).toNat) = qn_31 → q_Go Γ mL_lies 1 0 0 31 [(0, q_i a), (1, q_i own), (2, q_i i), (3, q_r Γ 151), (4, q_r Γ 152), (5, q_r Γ 153), (6, q_i best), (7, q_i t), (8, q_i is), (9, q_i b)] [] (KC, S) (q_ev (some (q_i (s_ti φ a own (w_h i)))) (KC, S)) := by
            intro qn_31
            induction qn_31 using Nat.strongRecOn with
            | ind qn_31 qih_31 =>
              intro is b qa_31_0 qa_31_1 qa_31_2 qhn_31
              subst qhn_31
              refine q_iload (pc' := 33) 9 dL_lies_31 rfl rfl ?_
              refine q_iconst (pc' := 34) dL_lies_33 rfl ?_
              refine q_icmp_ge (tgt := 88) (pc' := 37) dL_lies_34 rfl rfl (by first | assumption | omega) (by decide) (fun qc_34 => ?_) (fun qc_34 => ?_)
              · have hb4 : b = 4 := by omega
                refine q_iload (pc' := 90) 8 dL_lies_88 rfl rfl ?_
                refine q_if_eq (tgt := 98) (pc' := 93) dL_lies_90 rfl rfl (by first | assumption | omega) (fun qc_90 => ?_) (fun qc_90 => ?_)
                · have hkk : ¬ s_kN φ a t (w_h i) 4 := by rw [← hb4]; rcases qa_31_2 with q | q; omega; exact q.2
                  refine q_iload (pc' := 100) 6 dL_lies_98 rfl rfl ?_
                  refine q_istore (pc' := 102) (L' := [(6, q_i best), (0, q_i a), (1, q_i own), (2, q_i i), (3, q_r Γ 151), (4, q_r Γ 152), (5, q_r Γ 153), (7, q_i t), (8, q_i is), (9, q_i b)]) dL_lies_100 rfl (by decide) rfl ?_
                  refine q_iinc (pc' := 105) 7 (L' := [(7, q_i (t + 1)), (6, q_i best), (0, q_i a), (1, q_i own), (2, q_i i), (3, q_r Γ 151), (4, q_r Γ 152), (5, q_r Γ 153), (8, q_i is), (9, q_i b)]) dL_lies_102 rfl rfl (by decide) rfl ?_
                  refine q_goto (pc' := 19) dL_lies_105 rfl ?_
                  refine p_sub [2, 3, 4, 5, 6, 7, 1, 0] rfl ?_
                  exact qih_19 _ (by omega) _ _ (by first | assumption | omega) (by first | assumption | omega) (by rw [show (t + 1 - 1).toNat = t.toNat by omega]; first | exact (s_dn_t (P := fun t => s_keeps φ a t (w_h i)) (by omega) ((hkp t).mpr hkk)).symm | (rw [s_dn_f (P := fun t => s_keeps φ a t (w_h i)) (by omega) (fun g => hkk ((hkp t).mp g))]; exact qa_19_2)) rfl
                · have hkk : s_kN φ a t (w_h i) 4 := by rw [← hb4]; rcases qa_31_2 with q | q; exact q.2; omega
                  refine q_iload (pc' := 95) 7 dL_lies_93 rfl rfl ?_
                  refine q_goto (pc' := 100) dL_lies_95 rfl ?_
                  refine q_istore (pc' := 102) (L' := [(6, q_i t), (0, q_i a), (1, q_i own), (2, q_i i), (3, q_r Γ 151), (4, q_r Γ 152), (5, q_r Γ 153), (7, q_i t), (8, q_i is), (9, q_i b)]) dL_lies_100 rfl (by decide) rfl ?_
                  refine q_iinc (pc' := 105) 7 (L' := [(7, q_i (t + 1)), (6, q_i t), (0, q_i a), (1, q_i own), (2, q_i i), (3, q_r Γ 151), (4, q_r Γ 152), (5, q_r Γ 153), (8, q_i is), (9, q_i b)]) dL_lies_102 rfl rfl (by decide) rfl ?_
                  refine q_goto (pc' := 19) dL_lies_105 rfl ?_
                  refine p_sub [2, 3, 4, 5, 6, 7, 1, 0] rfl ?_
                  exact qih_19 _ (by omega) _ _ (by first | assumption | omega) (by first | assumption | omega) (by rw [show (t + 1 - 1).toNat = t.toNat by omega]; first | exact (s_dn_t (P := fun t => s_keeps φ a t (w_h i)) (by omega) ((hkp t).mpr hkk)).symm | (rw [s_dn_f (P := fun t => s_keeps φ a t (w_h i)) (by omega) (fun g => hkk ((hkp t).mp g))]; exact qa_19_2)) rfl
              · refine q_iload (pc' := 39) 8 dL_lies_37 rfl rfl ?_
                refine q_if_eq (tgt := 79) (pc' := 42) dL_lies_39 rfl rfl (by first | assumption | omega) (fun qc_39 => ?_) (fun qc_39 => ?_)
                · refine q_iconst (pc' := 80) dL_lies_79 rfl ?_
                  refine q_istore (pc' := 82) (L' := [(8, q_i 0), (0, q_i a), (1, q_i own), (2, q_i i), (3, q_r Γ 151), (4, q_r Γ 152), (5, q_r Γ 153), (6, q_i best), (7, q_i t), (9, q_i b)]) dL_lies_80 rfl (by decide) rfl ?_
                  refine q_iinc (pc' := 85) 9 (L' := [(9, q_i (b + 1)), (8, q_i 0), (0, q_i a), (1, q_i own), (2, q_i i), (3, q_r Γ 151), (4, q_r Γ 152), (5, q_r Γ 153), (6, q_i best), (7, q_i t)]) dL_lies_82 rfl rfl (by decide) rfl ?_
                  refine q_goto (pc' := 31) dL_lies_85 rfl ?_
                  refine p_sub [2, 3, 4, 5, 6, 7, 8, 9, 1, 0] rfl ?_
                  exact qih_31 _ (by omega) _ _ (by first | assumption | omega) (by first | assumption | omega) (by rw [s_kN_s (by omega)]; first | exact Or.inl ⟨rfl, by (rcases qa_31_2 with q | q; exact q.2; omega), by omega⟩ | exact Or.inr ⟨rfl, fun g => by (rcases qa_31_2 with q | q; omega; exact q.2 g.1)⟩ | exact Or.inr ⟨rfl, fun g => by omega⟩) rfl
                · refine q_iloadn (pc' := 43) 0 dL_lies_42 rfl rfl ?_
                  refine q_iload (pc' := 45) 9 dL_lies_43 rfl rfl ?_
                  refine q_icmp_eq (tgt := 75) (pc' := 48) dL_lies_45 rfl rfl (by first | assumption | omega) (by first | assumption | omega) (fun qc_45 => ?_) (fun qc_45 => ?_)
                  · refine q_iconst (pc' := 76) dL_lies_75 rfl ?_
                    refine q_goto (pc' := 80) dL_lies_76 rfl ?_
                    refine q_istore (pc' := 82) (L' := [(8, q_i 1), (0, q_i a), (1, q_i own), (2, q_i i), (3, q_r Γ 151), (4, q_r Γ 152), (5, q_r Γ 153), (6, q_i best), (7, q_i t), (9, q_i b)]) dL_lies_80 rfl (by decide) rfl ?_
                    refine q_iinc (pc' := 85) 9 (L' := [(9, q_i (b + 1)), (8, q_i 1), (0, q_i a), (1, q_i own), (2, q_i i), (3, q_r Γ 151), (4, q_r Γ 152), (5, q_r Γ 153), (6, q_i best), (7, q_i t)]) dL_lies_82 rfl rfl (by decide) rfl ?_
                    refine q_goto (pc' := 31) dL_lies_85 rfl ?_
                    refine p_sub [2, 3, 4, 5, 6, 7, 8, 9, 1, 0] rfl ?_
                    exact qih_31 _ (by omega) _ _ (by first | assumption | omega) (by first | assumption | omega) (by rw [s_kN_s (by omega)]; first | exact Or.inl ⟨rfl, by (rcases qa_31_2 with q | q; exact q.2; omega), by omega⟩ | exact Or.inr ⟨rfl, fun g => by (rcases qa_31_2 with q | q; omega; exact q.2 g.1)⟩ | exact Or.inr ⟨rfl, fun g => by omega⟩) rfl
                  · refine q_iloadn (pc' := 49) 0 dL_lies_48 rfl rfl ?_
                    refine q_iload (pc' := 51) 7 dL_lies_49 rfl rfl ?_
                    refine q_iload (pc' := 53) 9 dL_lies_51 rfl rfl ?_
                    refine q_iloadn (pc' := 54) 2 dL_lies_53 rfl rfl ?_
                    refine q_aloadn (pc' := 55) 3 dL_lies_54 rfl rfl ?_
                    refine q_callSI (pc' := 58) dL_lies_55 rfl lL_10 iL_shadow (c_L_shadow (by first | assumption | omega) (by first | assumption | omega) (by first | assumption | omega) (by first | assumption | omega) (by first | assumption | omega) (by first | assumption | omega) (by first | assumption | omega) (by first | assumption | omega) (by first | assumption | omega) (by first | assumption | omega)) rfl rfl (Nat.le_of_ble_eq_true rfl) (Nat.le_of_ble_eq_true rfl) (Nat.le_of_ble_eq_true rfl) ?_
                    have sb := s_sh_b ok (a := a) (t := t) (b := b) (h := w_h i) a0 (by omega) (by omega) (by omega) (by omega) (by omega) wb.1 wb.2
                    refine q_aload (pc' := 60) 4 dL_lies_58 rfl rfl ?_
                    refine q_bipush (pc' := 62) dL_lies_60 rfl rfl ?_
                    refine q_iloadn (pc' := 63) 2 dL_lies_62 rfl rfl ?_
                    refine q_imul (pc' := 64) dL_lies_63 rfl ?_
                    refine q_iconst (pc' := 65) dL_lies_64 rfl ?_
                    refine q_iloadn (pc' := 66) 0 dL_lies_65 rfl rfl ?_
                    refine q_imul (pc' := 67) dL_lies_66 rfl ?_
                    refine q_iadd (pc' := 68) dL_lies_67 rfl ?_
                    refine q_iload (pc' := 70) 9 dL_lies_68 rfl rfl ?_
                    refine q_iadd (pc' := 71) dL_lies_70 rfl ?_
                    refine p_iald (pc' := 72) dL_lies_71 rfl kc152 (by first | assumption | omega) (by first | assumption | omega) (by decide) (fun qy_71 eqy_71 rqy_71 => ?_)
                    have vqy_71 : qy_71 = s_rt φ a b (w_h i) := eqy_71.trans (w_rt H (by first | assumption | omega) (by first | assumption | omega) (by first | assumption | omega) (by first | assumption | omega) (by first | assumption | omega) (by first | assumption | omega))
                    rw [vqy_71]
                    have rb := s_rt_b ok (a := a) (b := b) (h := w_h i) a0 (by omega) (by omega) (by omega) wb.1 wb.2
                    refine q_icmp_gt (tgt := 79) (pc' := 75) dL_lies_72 rfl rfl (by first | assumption | omega) (by first | assumption | omega) (fun qc_72 => ?_) (fun qc_72 => ?_)
                    · refine q_iconst (pc' := 80) dL_lies_79 rfl ?_
                      refine q_istore (pc' := 82) (L' := [(8, q_i 0), (0, q_i a), (1, q_i own), (2, q_i i), (3, q_r Γ 151), (4, q_r Γ 152), (5, q_r Γ 153), (6, q_i best), (7, q_i t), (9, q_i b)]) dL_lies_80 rfl (by decide) rfl ?_
                      refine q_iinc (pc' := 85) 9 (L' := [(9, q_i (b + 1)), (8, q_i 0), (0, q_i a), (1, q_i own), (2, q_i i), (3, q_r Γ 151), (4, q_r Γ 152), (5, q_r Γ 153), (6, q_i best), (7, q_i t)]) dL_lies_82 rfl rfl (by decide) rfl ?_
                      refine q_goto (pc' := 31) dL_lies_85 rfl ?_
                      refine p_sub [2, 3, 4, 5, 6, 7, 8, 9, 1, 0] rfl ?_
                      exact qih_31 _ (by omega) _ _ (by first | assumption | omega) (by first | assumption | omega) (by rw [s_kN_s (by omega)]; first | exact Or.inl ⟨rfl, by (rcases qa_31_2 with q | q; exact q.2; omega), by omega⟩ | exact Or.inr ⟨rfl, fun g => by (rcases qa_31_2 with q | q; omega; exact q.2 g.1)⟩ | exact Or.inr ⟨rfl, fun g => by omega⟩) rfl
                    · refine q_iconst (pc' := 76) dL_lies_75 rfl ?_
                      refine q_goto (pc' := 80) dL_lies_76 rfl ?_
                      refine q_istore (pc' := 82) (L' := [(8, q_i 1), (0, q_i a), (1, q_i own), (2, q_i i), (3, q_r Γ 151), (4, q_r Γ 152), (5, q_r Γ 153), (6, q_i best), (7, q_i t), (9, q_i b)]) dL_lies_80 rfl (by decide) rfl ?_
                      refine q_iinc (pc' := 85) 9 (L' := [(9, q_i (b + 1)), (8, q_i 1), (0, q_i a), (1, q_i own), (2, q_i i), (3, q_r Γ 151), (4, q_r Γ 152), (5, q_r Γ 153), (6, q_i best), (7, q_i t)]) dL_lies_82 rfl rfl (by decide) rfl ?_
                      refine q_goto (pc' := 31) dL_lies_85 rfl ?_
                      refine p_sub [2, 3, 4, 5, 6, 7, 8, 9, 1, 0] rfl ?_
                      exact qih_31 _ (by omega) _ _ (by first | assumption | omega) (by first | assumption | omega) (by rw [s_kN_s (by omega)]; first | exact Or.inl ⟨rfl, by (rcases qa_31_2 with q | q; exact q.2; omega), by omega⟩ | exact Or.inr ⟨rfl, fun g => by (rcases qa_31_2 with q | q; omega; exact q.2 g.1)⟩ | exact Or.inr ⟨rfl, fun g => by omega⟩) rfl
          refine p_sub [2, 3, 4, 5, 6, 7, 8, 9, 1, 0] rfl ?_
          exact qlp_31 _ _ _ (by first | assumption | omega) (by first | assumption | omega) (by exact Or.inl ⟨rfl, fun b x y => by omega⟩) rfl
    refine p_sub [2, 3, 4, 5, 6, 7, 1, 0] rfl ?_
    exact qlp_19 _ _ _ (by first | assumption | omega) (by first | assumption | omega) (by rfl) rfl
  · refine q_iconst (pc' := 12) dL_lies_11 rfl ?_
    refine p_iret dL_lies_12 rfl ?_ ?_
    · exact (q_if_t (show s_flat φ (w_h i) by unfold s_flat; omega)).symm
    · rfl
set_option maxRecDepth 20000 in
set_option maxHeartbeats 4000000 in
theorem c_L_blamed {Γ : q_G} {S : q_S} {φ : Int → Int} {r i : Int} (H : w_R S φ) (ok : s_ok φ) (r0 : 0 ≤ r) (r1 : r < 4) (i0 : 0 ≤ i) (i1 : i < 3) : q_Sp Γ mL_blamed 2 0 0 [q_i r, q_i i, q_r Γ 151, q_r Γ 152, q_r Γ 153] (KC, S) (q_ev (some (q_i (s_bl φ r (w_h i)))) (KC, S)) := by
  show q_Go Γ mL_blamed 2 0 0 0 [(0, q_i r), (1, q_i i), (2, q_r Γ 151), (3, q_r Γ 152), (4, q_r Γ 153)] [] (KC, S) (q_ev (some (q_i (s_bl φ r (w_h i)))) (KC, S))
  have wb := w_h_b i
  have hr := H.1
  have pr := s_pt_b ok (r := r) r0 (by omega)
  refine q_bipush (pc' := 2) dL_blamed_0 rfl rfl ?_
  refine q_istore (pc' := 4) (L' := [(5, q_i (-6)), (0, q_i r), (1, q_i i), (2, q_r Γ 151), (3, q_r Γ 152), (4, q_r Γ 153)]) dL_blamed_2 rfl (by decide) rfl ?_
  refine q_iconst (pc' := 5) dL_blamed_4 rfl ?_
  refine q_istore (pc' := 7) (L' := [(6, q_i 0), (5, q_i (-6)), (0, q_i r), (1, q_i i), (2, q_r Γ 151), (3, q_r Γ 152), (4, q_r Γ 153)]) dL_blamed_5 rfl (by decide) rfl ?_
  refine q_iconst (pc' := 8) dL_blamed_7 rfl ?_
  refine q_istore (pc' := 10) (L' := [(7, q_i 0), (6, q_i 0), (5, q_i (-6)), (0, q_i r), (1, q_i i), (2, q_r Γ 151), (3, q_r Γ 152), (4, q_r Γ 153)]) dL_blamed_8 rfl (by decide) rfl ?_
  have qlp_10 : ∀ (qn_10 : Nat) (best wo k : Int), (0 ≤ k) → (k ≤ 4) → (best = (s_bN φ r (w_h i) k.toNat).1) → (wo = w_wo φ r (s_bN φ r (w_h i) k.toNat)) → ((4 - k).toNat) = qn_10 → q_Go Γ mL_blamed 2 0 0 10 [(0, q_i r), (1, q_i i), (2, q_r Γ 151), (3, q_r Γ 152), (4, q_r Γ 153), (5, q_i best), (6, q_i wo), (7, q_i k)] [] (KC, S) (q_ev (some (q_i (s_bl φ r (w_h i)))) (KC, S)) := by
    intro qn_10
    induction qn_10 using Nat.strongRecOn with
    | ind qn_10 qih_10 =>
      intro best wo k qa_10_0 qa_10_1 qa_10_2 qa_10_3 qhn_10
      subst qhn_10
      have bb := s_bN_b ok r0 (show r < 6 by omega) wb.1 wb.2 k.toNat (by omega)
      have wob : 0 ≤ wo ∧ wo ≤ 100000 := by rw [qa_10_3]; exact w_wo_b ok r0 (show r < 6 by omega) wb.1 wb.2 (by omega)
      refine q_iload (pc' := 12) 7 dL_blamed_10 rfl rfl ?_
      refine q_iconst (pc' := 13) dL_blamed_12 rfl ?_
      refine q_icmp_ge (tgt := 159) (pc' := 16) dL_blamed_13 rfl rfl (by first | assumption | omega) (by decide) (fun qc_13 => ?_) (fun qc_13 => ?_)
      · refine q_iload (pc' := 161) 5 dL_blamed_159 rfl rfl ?_
        refine p_iret dL_blamed_161 rfl ?_ ?_
        · rw [qa_10_2, show k = φ 0 by omega]; rfl
        · rfl
      · have qlp_52 : ∀ (up : Int), (up = s_up φ r (w_h i) k) → q_Go Γ mL_blamed 2 0 0 52 [(0, q_i r), (1, q_i i), (2, q_r Γ 151), (3, q_r Γ 152), (4, q_r Γ 153), (5, q_i best), (6, q_i wo), (7, q_i k)] [q_i up] (KC, S) (q_ev (some (q_i (s_bl φ r (w_h i)))) (KC, S)) := by
          intro up qa_52_0
          have ub := s_up_b ok (a := k) (r := r) (h := w_h i) (by omega) (by omega) r0 (by omega) wb.1 wb.2
          refine q_istore (pc' := 54) (L' := [(8, q_i up), (0, q_i r), (1, q_i i), (2, q_r Γ 151), (3, q_r Γ 152), (4, q_r Γ 153), (5, q_i best), (6, q_i wo), (7, q_i k)]) dL_blamed_52 rfl (by decide) rfl ?_
          have qlp_95 : ∀ (fa : Int), (fa = s_far φ k r) → q_Go Γ mL_blamed 2 0 0 95 [(0, q_i r), (1, q_i i), (2, q_r Γ 151), (3, q_r Γ 152), (4, q_r Γ 153), (5, q_i best), (6, q_i wo), (7, q_i k), (8, q_i up)] [q_i fa] (KC, S) (q_ev (some (q_i (s_bl φ r (w_h i)))) (KC, S)) := by
            intro fa qa_95_0
            have fb := s_far_b ok (a := k) (b := r) (by omega) (by omega) r0 (by omega)
            refine q_istore (pc' := 97) (L' := [(9, q_i fa), (0, q_i r), (1, q_i i), (2, q_r Γ 151), (3, q_r Γ 152), (4, q_r Γ 153), (5, q_i best), (6, q_i wo), (7, q_i k), (8, q_i up)]) dL_blamed_95 rfl (by decide) rfl ?_
            have qlp_119 : ∀ (v : Int), (v = if up = 0 then 0 else 1000 * up + 500 - fa) → q_Go Γ mL_blamed 2 0 0 119 [(0, q_i r), (1, q_i i), (2, q_r Γ 151), (3, q_r Γ 152), (4, q_r Γ 153), (5, q_i best), (6, q_i wo), (7, q_i k), (8, q_i up), (9, q_i fa)] [q_i v] (KC, S) (q_ev (some (q_i (s_bl φ r (w_h i)))) (KC, S)) := by
              intro v qa_119_0
              refine q_istore (pc' := 121) (L' := [(10, q_i v), (0, q_i r), (1, q_i i), (2, q_r Γ 151), (3, q_r Γ 152), (4, q_r Γ 153), (5, q_i best), (6, q_i wo), (7, q_i k), (8, q_i up), (9, q_i fa)]) dL_blamed_119 rfl (by decide) rfl ?_
              have hN := w_bN ok r0 (show r < 6 by omega) wb.1 wb.2 (k := k) (v := v) (by omega) (by omega) (by rw [← qa_52_0, ← qa_95_0]; assumption)
              rw [← qa_10_3] at hN
              refine q_iload (pc' := 123) 0 dL_blamed_121 rfl rfl ?_
              refine q_iload (pc' := 125) 7 dL_blamed_123 rfl rfl ?_
              refine q_icmp_le (tgt := 133) (pc' := 128) dL_blamed_125 rfl rfl (by first | assumption | omega) (by first | assumption | omega) (fun qc_125 => ?_) (fun qc_125 => ?_)
              · refine q_iload (pc' := 135) 6 dL_blamed_133 rfl rfl ?_
                refine q_istore (pc' := 137) (L' := [(5, q_i best), (10, q_i v), (0, q_i r), (1, q_i i), (2, q_r Γ 151), (3, q_r Γ 152), (4, q_r Γ 153), (6, q_i wo), (7, q_i k), (8, q_i up), (9, q_i fa)]) dL_blamed_135 rfl (by decide) rfl ?_
                refine q_iload (pc' := 139) 1 dL_blamed_137 rfl rfl ?_
                refine q_iload (pc' := 141) 7 dL_blamed_139 rfl rfl ?_
                refine q_icmp_le (tgt := 149) (pc' := 144) dL_blamed_141 rfl rfl (by first | assumption | omega) (by first | assumption | omega) (fun qc_141 => ?_) (fun qc_141 => ?_)
                · refine q_iload (pc' := 151) 7 dL_blamed_149 rfl rfl ?_
                  refine q_istore (pc' := 153) (L' := [(6, q_i wo), (5, q_i best), (10, q_i v), (0, q_i r), (1, q_i i), (2, q_r Γ 151), (3, q_r Γ 152), (4, q_r Γ 153), (7, q_i k), (8, q_i up), (9, q_i fa)]) dL_blamed_151 rfl (by decide) rfl ?_
                  refine q_iinc (pc' := 156) 8 (L' := [(7, q_i (k + 1)), (6, q_i wo), (5, q_i best), (10, q_i v), (0, q_i r), (1, q_i i), (2, q_r Γ 151), (3, q_r Γ 152), (4, q_r Γ 153), (8, q_i up), (9, q_i fa)]) dL_blamed_153 rfl rfl (by decide) rfl ?_
                  refine q_goto (pc' := 10) dL_blamed_156 rfl ?_
                  refine p_sub [4, 5, 6, 7, 8, 2, 1, 0] rfl ?_
                  exact qih_10 _ (by omega) _ _ _ (by first | assumption | omega) (by first | assumption | omega) (by first | exact (hN.1 (by omega)).1.symm | (rw [hN.2 (by omega)]; assumption)) (by first | exact (hN.1 (by omega)).2.symm | (rw [hN.2 (by omega)]; assumption)) rfl
                · refine q_iload (pc' := 146) 1 dL_blamed_144 rfl rfl ?_
                  refine q_goto (pc' := 151) dL_blamed_146 rfl ?_
                  refine q_istore (pc' := 153) (L' := [(6, q_i v), (5, q_i best), (10, q_i v), (0, q_i r), (1, q_i i), (2, q_r Γ 151), (3, q_r Γ 152), (4, q_r Γ 153), (7, q_i k), (8, q_i up), (9, q_i fa)]) dL_blamed_151 rfl (by decide) rfl ?_
                  refine q_iinc (pc' := 156) 8 (L' := [(7, q_i (k + 1)), (6, q_i v), (5, q_i best), (10, q_i v), (0, q_i r), (1, q_i i), (2, q_r Γ 151), (3, q_r Γ 152), (4, q_r Γ 153), (8, q_i up), (9, q_i fa)]) dL_blamed_153 rfl rfl (by decide) rfl ?_
                  refine q_goto (pc' := 10) dL_blamed_156 rfl ?_
                  refine p_sub [4, 5, 6, 7, 8, 2, 1, 0] rfl ?_
                  exact qih_10 _ (by omega) _ _ _ (by first | assumption | omega) (by first | assumption | omega) (by first | exact (hN.1 (by omega)).1.symm | (rw [hN.2 (by omega)]; assumption)) (by first | exact (hN.1 (by omega)).2.symm | (rw [hN.2 (by omega)]; assumption)) rfl
              · refine q_iload (pc' := 130) 8 dL_blamed_128 rfl rfl ?_
                refine q_goto (pc' := 135) dL_blamed_130 rfl ?_
                refine q_istore (pc' := 137) (L' := [(5, q_i k), (10, q_i v), (0, q_i r), (1, q_i i), (2, q_r Γ 151), (3, q_r Γ 152), (4, q_r Γ 153), (6, q_i wo), (7, q_i k), (8, q_i up), (9, q_i fa)]) dL_blamed_135 rfl (by decide) rfl ?_
                refine q_iload (pc' := 139) 1 dL_blamed_137 rfl rfl ?_
                refine q_iload (pc' := 141) 7 dL_blamed_139 rfl rfl ?_
                refine q_icmp_le (tgt := 149) (pc' := 144) dL_blamed_141 rfl rfl (by first | assumption | omega) (by first | assumption | omega) (fun qc_141_1 => ?_) (fun qc_141_1 => ?_)
                · refine q_iload (pc' := 151) 7 dL_blamed_149 rfl rfl ?_
                  refine q_istore (pc' := 153) (L' := [(6, q_i wo), (5, q_i k), (10, q_i v), (0, q_i r), (1, q_i i), (2, q_r Γ 151), (3, q_r Γ 152), (4, q_r Γ 153), (7, q_i k), (8, q_i up), (9, q_i fa)]) dL_blamed_151 rfl (by decide) rfl ?_
                  refine q_iinc (pc' := 156) 8 (L' := [(7, q_i (k + 1)), (6, q_i wo), (5, q_i k), (10, q_i v), (0, q_i r), (1, q_i i), (2, q_r Γ 151), (3, q_r Γ 152), (4, q_r Γ 153), (8, q_i up), (9, q_i fa)]) dL_blamed_153 rfl rfl (by decide) rfl ?_
                  refine q_goto (pc' := 10) dL_blamed_156 rfl ?_
                  refine p_sub [4, 5, 6, 7, 8, 2, 1, 0] rfl ?_
                  exact qih_10 _ (by omega) _ _ _ (by first | assumption | omega) (by first | assumption | omega) (by first | exact (hN.1 (by omega)).1.symm | (rw [hN.2 (by omega)]; assumption)) (by first | exact (hN.1 (by omega)).2.symm | (rw [hN.2 (by omega)]; assumption)) rfl
                · refine q_iload (pc' := 146) 1 dL_blamed_144 rfl rfl ?_
                  refine q_goto (pc' := 151) dL_blamed_146 rfl ?_
                  refine q_istore (pc' := 153) (L' := [(6, q_i v), (5, q_i k), (10, q_i v), (0, q_i r), (1, q_i i), (2, q_r Γ 151), (3, q_r Γ 152), (4, q_r Γ 153), (7, q_i k), (8, q_i up), (9, q_i fa)]) dL_blamed_151 rfl (by decide) rfl ?_
                  refine q_iinc (pc' := 156) 8 (L' := [(7, q_i (k + 1)), (6, q_i v), (5, q_i k), (10, q_i v), (0, q_i r), (1, q_i i), (2, q_r Γ 151), (3, q_r Γ 152), (4, q_r Γ 153), (8, q_i up), (9, q_i fa)]) dL_blamed_153 rfl rfl (by decide) rfl ?_
                  refine q_goto (pc' := 10) dL_blamed_156 rfl ?_
                  refine p_sub [4, 5, 6, 7, 8, 2, 1, 0] rfl ?_
                  exact qih_10 _ (by omega) _ _ _ (by first | assumption | omega) (by first | assumption | omega) (by first | exact (hN.1 (by omega)).1.symm | (rw [hN.2 (by omega)]; assumption)) (by first | exact (hN.1 (by omega)).2.symm | (rw [hN.2 (by omega)]; assumption)) rfl
            refine q_iload (pc' := 99) 9 dL_blamed_97 rfl rfl ?_
            refine q_if_ne (tgt := 106) (pc' := 102) dL_blamed_99 rfl rfl (by first | assumption | omega) (fun qc_99 => ?_) (fun qc_99 => ?_)
            · refine q_sipush (pc' := 109) dL_blamed_106 rfl rfl ?_
              refine q_iload (pc' := 111) 9 dL_blamed_109 rfl rfl ?_
              refine q_imul (pc' := 112) dL_blamed_111 rfl ?_
              refine q_sipush (pc' := 115) dL_blamed_112 rfl rfl ?_
              refine q_iadd (pc' := 116) dL_blamed_115 rfl ?_
              refine q_iload (pc' := 118) 0 dL_blamed_116 rfl rfl ?_
              refine q_isub (pc' := 119) dL_blamed_118 rfl ?_
              refine p_sub [1, 2, 3, 4, 5, 6, 7, 8, 9, 0] rfl ?_
              exact qlp_119 _ (by omega)
            · refine q_iconst (pc' := 103) dL_blamed_102 rfl ?_
              refine q_goto (pc' := 119) dL_blamed_103 rfl ?_
              refine p_sub [1, 2, 3, 4, 5, 6, 7, 8, 9, 0] rfl ?_
              exact qlp_119 _ (by omega)
          refine q_aloadn (pc' := 55) 3 dL_blamed_54 rfl rfl ?_
          refine q_iconst (pc' := 56) dL_blamed_55 rfl ?_
          refine q_iload (pc' := 58) 8 dL_blamed_56 rfl rfl ?_
          refine q_imul (pc' := 59) dL_blamed_58 rfl ?_
          refine p_iald (pc' := 60) dL_blamed_59 rfl kc151 (by first | assumption | omega) (by first | assumption | omega) (by decide) (fun qy_59 eqy_59 rqy_59 => ?_)
          have vqy_59 : qy_59 = s_pt φ k 0 := eqy_59.trans (w_pt0 H (by first | assumption | omega) (by first | assumption | omega))
          rw [vqy_59]
          refine q_aloadn (pc' := 61) 3 dL_blamed_60 rfl rfl ?_
          refine q_iconst (pc' := 62) dL_blamed_61 rfl ?_
          refine q_iloadn (pc' := 63) 1 dL_blamed_62 rfl rfl ?_
          refine q_imul (pc' := 64) dL_blamed_63 rfl ?_
          refine p_iald (pc' := 65) dL_blamed_64 rfl kc151 (by first | assumption | omega) (by first | assumption | omega) (by decide) (fun qy_64 eqy_64 rqy_64 => ?_)
          have vqy_64 : qy_64 = s_pt φ r 0 := eqy_64.trans (w_pt0 H (by first | assumption | omega) (by first | assumption | omega))
          rw [vqy_64]
          refine q_icmp_le (tgt := 83) (pc' := 68) dL_blamed_65 rfl rfl (by first | assumption | omega) (by first | assumption | omega) (fun qc_65 => ?_) (fun qc_65 => ?_)
          · refine q_aloadn (pc' := 84) 3 dL_blamed_83 rfl rfl ?_
            refine q_iconst (pc' := 85) dL_blamed_84 rfl ?_
            refine q_iloadn (pc' := 86) 1 dL_blamed_85 rfl rfl ?_
            refine q_imul (pc' := 87) dL_blamed_86 rfl ?_
            refine p_iald (pc' := 88) dL_blamed_87 rfl kc151 (by first | assumption | omega) (by first | assumption | omega) (by decide) (fun qy_87 eqy_87 rqy_87 => ?_)
            have vqy_87 : qy_87 = s_pt φ r 0 := eqy_87.trans (w_pt0 H (by first | assumption | omega) (by first | assumption | omega))
            rw [vqy_87]
            refine q_aloadn (pc' := 89) 3 dL_blamed_88 rfl rfl ?_
            refine q_iconst (pc' := 90) dL_blamed_89 rfl ?_
            refine q_iload (pc' := 92) 8 dL_blamed_90 rfl rfl ?_
            refine q_imul (pc' := 93) dL_blamed_92 rfl ?_
            refine p_iald (pc' := 94) dL_blamed_93 rfl kc151 (by first | assumption | omega) (by first | assumption | omega) (by decide) (fun qy_93 eqy_93 rqy_93 => ?_)
            have vqy_93 : qy_93 = s_pt φ k 0 := eqy_93.trans (w_pt0 H (by first | assumption | omega) (by first | assumption | omega))
            rw [vqy_93]
            refine q_isub (pc' := 95) dL_blamed_94 rfl ?_
            refine p_sub [1, 2, 3, 4, 5, 6, 7, 8, 0] rfl ?_
            exact qlp_95 _ (by unfold s_far; omega)
          · refine q_aloadn (pc' := 69) 3 dL_blamed_68 rfl rfl ?_
            refine q_iconst (pc' := 70) dL_blamed_69 rfl ?_
            refine q_iload (pc' := 72) 8 dL_blamed_70 rfl rfl ?_
            refine q_imul (pc' := 73) dL_blamed_72 rfl ?_
            refine p_iald (pc' := 74) dL_blamed_73 rfl kc151 (by first | assumption | omega) (by first | assumption | omega) (by decide) (fun qy_73 eqy_73 rqy_73 => ?_)
            have vqy_73 : qy_73 = s_pt φ k 0 := eqy_73.trans (w_pt0 H (by first | assumption | omega) (by first | assumption | omega))
            rw [vqy_73]
            refine q_aloadn (pc' := 75) 3 dL_blamed_74 rfl rfl ?_
            refine q_iconst (pc' := 76) dL_blamed_75 rfl ?_
            refine q_iloadn (pc' := 77) 1 dL_blamed_76 rfl rfl ?_
            refine q_imul (pc' := 78) dL_blamed_77 rfl ?_
            refine p_iald (pc' := 79) dL_blamed_78 rfl kc151 (by first | assumption | omega) (by first | assumption | omega) (by decide) (fun qy_78 eqy_78 rqy_78 => ?_)
            have vqy_78 : qy_78 = s_pt φ r 0 := eqy_78.trans (w_pt0 H (by first | assumption | omega) (by first | assumption | omega))
            rw [vqy_78]
            refine q_isub (pc' := 80) dL_blamed_79 rfl ?_
            refine q_goto (pc' := 95) dL_blamed_80 rfl ?_
            refine p_sub [1, 2, 3, 4, 5, 6, 7, 8, 0] rfl ?_
            exact qlp_95 _ (by unfold s_far; omega)
        have pk := s_pt_b ok (r := k) (by omega) (by omega)
        refine q_iload (pc' := 18) 7 dL_blamed_16 rfl rfl ?_
        refine q_iloadn (pc' := 19) 0 dL_blamed_18 rfl rfl ?_
        refine q_icmp_ne (tgt := 26) (pc' := 22) dL_blamed_19 rfl rfl (by first | assumption | omega) (by first | assumption | omega) (fun qc_19 => ?_) (fun qc_19 => ?_)
        · refine q_iload (pc' := 28) 7 dL_blamed_26 rfl rfl ?_
          refine q_iload (pc' := 30) 7 dL_blamed_28 rfl rfl ?_
          refine q_aloadn (pc' := 31) 2 dL_blamed_30 rfl rfl ?_
          refine q_iconst (pc' := 32) dL_blamed_31 rfl ?_
          refine q_iload (pc' := 34) 7 dL_blamed_32 rfl rfl ?_
          refine q_imul (pc' := 35) dL_blamed_34 rfl ?_
          refine q_iconst (pc' := 36) dL_blamed_35 rfl ?_
          refine q_iadd (pc' := 37) dL_blamed_36 rfl ?_
          refine p_iald (pc' := 38) dL_blamed_37 rfl kc151 (by first | assumption | omega) (by first | assumption | omega) (by decide) (fun qy_37 eqy_37 rqy_37 => ?_)
          have vqy_37 : qy_37 = s_pt φ k 2 := eqy_37.trans (w_pt H (by first | assumption | omega) (by first | assumption | omega) (by first | assumption | omega) (by first | assumption | omega))
          rw [vqy_37]
          refine q_iloadn (pc' := 39) 1 dL_blamed_38 rfl rfl ?_
          refine q_aloadn (pc' := 40) 2 dL_blamed_39 rfl rfl ?_
          refine q_aloadn (pc' := 41) 3 dL_blamed_40 rfl rfl ?_
          refine q_aload (pc' := 43) 4 dL_blamed_41 rfl rfl ?_
          refine q_callSI (pc' := 46) dL_blamed_43 rfl lL_16 iL_lies (c_L_lies (by first | assumption | omega) (by first | assumption | omega) (by first | assumption | omega) (by first | assumption | omega) (by first | assumption | omega) (by first | assumption | omega) (by first | assumption | omega) (by first | assumption | omega)) rfl rfl (Nat.le_of_ble_eq_true rfl) (Nat.le_of_ble_eq_true rfl) (Nat.le_of_ble_eq_true rfl) ?_
          have tb := s_tio_b ok (w_h i) (r := k) (by omega) (by omega)
          refine q_iloadn (pc' := 47) 0 dL_blamed_46 rfl rfl ?_
          refine q_iloadn (pc' := 48) 1 dL_blamed_47 rfl rfl ?_
          refine q_aloadn (pc' := 49) 2 dL_blamed_48 rfl rfl ?_
          refine q_callSI (pc' := 52) dL_blamed_49 rfl lL_10 iL_shadow (c_L_shadow (by first | assumption | omega) (by first | assumption | omega) (by first | assumption | omega) (by first | assumption | omega) (by first | assumption | omega) (by first | assumption | omega) (by first | assumption | omega) (by first | assumption | omega) (by first | assumption | omega) (by first | assumption | omega)) rfl rfl (Nat.le_of_ble_eq_true rfl) (Nat.le_of_ble_eq_true rfl) (Nat.le_of_ble_eq_true rfl) ?_
          refine p_sub [0, 1, 2, 3, 4, 5, 6, 7] rfl ?_
          exact qlp_52 _ (by first | exact (if_pos (by omega)).symm | exact (if_neg (by omega)).symm)
        · refine q_iconst (pc' := 23) dL_blamed_22 rfl ?_
          refine q_goto (pc' := 52) dL_blamed_23 rfl ?_
          refine p_sub [0, 1, 2, 3, 4, 5, 6, 7] rfl ?_
          exact qlp_52 _ (by first | exact (if_pos (by omega)).symm | exact (if_neg (by omega)).symm)
  refine p_sub [3, 4, 5, 6, 7, 2, 1, 0] rfl ?_
  exact qlp_10 _ _ _ _ (by first | assumption | omega) (by first | assumption | omega) (by rfl) (by rfl) rfl
set_option maxRecDepth 20000 in
set_option maxHeartbeats 4000000 in
theorem c_L_shade {Γ : q_G} {S : q_S} {φ : Int → Int} {r i : Int} (H : w_R S φ) (ok : s_ok φ) (r0 : 0 ≤ r) (r1 : r < 4) (i0 : 0 ≤ i) (i1 : i < 3) : q_Sp Γ mL_shade 3 0 0 [q_i r, q_i i, q_r Γ 151, q_r Γ 152, q_r Γ 153] (KC, S) (q_ev (some (q_i (s_shd φ r (w_h i)))) (KC, S)) := by
  show q_Go Γ mL_shade 3 0 0 0 [(0, q_i r), (1, q_i i), (2, q_r Γ 151), (3, q_r Γ 152), (4, q_r Γ 153)] [] (KC, S) (q_ev (some (q_i (s_shd φ r (w_h i)))) (KC, S))
  have wb := w_h_b i
  have hr := H.1
  have pr := s_pt_b ok (r := r) r0 (by omega)
  have bb := s_bl_b ok r0 (show r < 6 by omega) wb.1 wb.2
  have hb := s_he_b ok (w_h i) (r := r) r0 (by omega)
  have tr := s_tio_b ok (w_h i) (r := r) r0 (by omega)
  refine q_iloadn (pc' := 1) 0 dL_shade_0 rfl rfl ?_
  refine q_iloadn (pc' := 2) 1 dL_shade_1 rfl rfl ?_
  refine q_aloadn (pc' := 3) 2 dL_shade_2 rfl rfl ?_
  refine q_aloadn (pc' := 4) 3 dL_shade_3 rfl rfl ?_
  refine q_aload (pc' := 6) 4 dL_shade_4 rfl rfl ?_
  refine q_callSI (pc' := 9) dL_shade_6 rfl lL_20 iL_blamed (c_L_blamed (by first | assumption | omega) (by first | assumption | omega) (by first | assumption | omega) (by first | assumption | omega) (by first | assumption | omega) (by first | assumption | omega)) rfl rfl (Nat.le_of_ble_eq_true rfl) (Nat.le_of_ble_eq_true rfl) (Nat.le_of_ble_eq_true rfl) ?_
  have qlp_46 : ∀ (up : Int), (up = if s_bl φ r (w_h i) = -6 then 0 else s_si φ (s_bl φ r (w_h i)) r (w_h i)) → (0 ≤ up ∧ up ≤ 80) → q_Go Γ mL_shade 3 0 0 46 [(0, q_i r), (1, q_i i), (2, q_r Γ 151), (3, q_r Γ 152), (4, q_r Γ 153)] [q_i up] (KC, S) (q_ev (some (q_i (s_shd φ r (w_h i)))) (KC, S)) := by
    intro up qa_46_0 qa_46_1
    refine q_istore (pc' := 48) (L' := [(6, q_i up), (0, q_i r), (1, q_i i), (2, q_r Γ 151), (3, q_r Γ 152), (4, q_r Γ 153)]) dL_shade_46 rfl (by decide) rfl ?_
    refine q_aloadn (pc' := 49) 3 dL_shade_48 rfl rfl ?_
    refine q_iconst (pc' := 50) dL_shade_49 rfl ?_
    refine q_iloadn (pc' := 51) 1 dL_shade_50 rfl rfl ?_
    refine q_imul (pc' := 52) dL_shade_51 rfl ?_
    refine q_iconst (pc' := 53) dL_shade_52 rfl ?_
    refine q_iadd (pc' := 54) dL_shade_53 rfl ?_
    refine p_iald (pc' := 55) dL_shade_54 rfl kc151 (by first | assumption | omega) (by first | assumption | omega) (by decide) (fun qy_54 eqy_54 rqy_54 => ?_)
    have vqy_54 : qy_54 = s_pt φ r 1 := eqy_54.trans (w_pt H (by first | assumption | omega) (by first | assumption | omega) (by first | assumption | omega) (by first | assumption | omega))
    rw [vqy_54]
    refine q_iloadn (pc' := 56) 1 dL_shade_55 rfl rfl ?_
    refine q_aloadn (pc' := 57) 3 dL_shade_56 rfl rfl ?_
    refine q_iconst (pc' := 58) dL_shade_57 rfl ?_
    refine q_iloadn (pc' := 59) 1 dL_shade_58 rfl rfl ?_
    refine q_imul (pc' := 60) dL_shade_59 rfl ?_
    refine q_iconst (pc' := 61) dL_shade_60 rfl ?_
    refine q_iadd (pc' := 62) dL_shade_61 rfl ?_
    refine p_iald (pc' := 63) dL_shade_62 rfl kc151 (by first | assumption | omega) (by first | assumption | omega) (by decide) (fun qy_62 eqy_62 rqy_62 => ?_)
    have vqy_62 : qy_62 = s_pt φ r 2 := eqy_62.trans (w_pt H (by first | assumption | omega) (by first | assumption | omega) (by first | assumption | omega) (by first | assumption | omega))
    rw [vqy_62]
    refine q_iloadn (pc' := 64) 2 dL_shade_63 rfl rfl ?_
    refine q_aloadn (pc' := 65) 3 dL_shade_64 rfl rfl ?_
    refine q_aloadn (pc' := 66) 4 dL_shade_65 rfl rfl ?_
    refine q_aload (pc' := 68) 5 dL_shade_66 rfl rfl ?_
    refine q_callSI (pc' := 71) dL_shade_68 rfl lL_16 iL_lies (c_L_lies (by first | assumption | omega) (by first | assumption | omega) (by first | assumption | omega) (by first | assumption | omega) (by first | assumption | omega) (by first | assumption | omega) (by first | assumption | omega) (by first | assumption | omega)) rfl rfl (Nat.le_of_ble_eq_true rfl) (Nat.le_of_ble_eq_true rfl) (Nat.le_of_ble_eq_true rfl) ?_
    refine q_imul (pc' := 72) dL_shade_71 rfl ?_
    change q_Go _ _ _ _ _ _ _ (q_i (s_he φ r (w_h i)) :: _) _ _
    refine q_istore (pc' := 74) (L' := [(7, q_i (s_he φ r (w_h i))), (6, q_i up), (0, q_i r), (1, q_i i), (2, q_r Γ 151), (3, q_r Γ 152), (4, q_r Γ 153)]) dL_shade_72 rfl (by decide) rfl ?_
    refine q_iload (pc' := 76) 1 dL_shade_74 rfl rfl ?_
    refine q_iload (pc' := 78) 0 dL_shade_76 rfl rfl ?_
    refine q_icmp_le (tgt := 86) (pc' := 81) dL_shade_78 rfl rfl (by first | assumption | omega) (by first | assumption | omega) (fun qc_78 => ?_) (fun qc_78 => ?_)
    · refine q_iload (pc' := 88) 1 dL_shade_86 rfl rfl ?_
      refine p_iret dL_shade_88 rfl ?_ ?_
      · unfold s_shd; omega
      · rfl
    · refine q_iload (pc' := 83) 0 dL_shade_81 rfl rfl ?_
      refine q_goto (pc' := 88) dL_shade_83 rfl ?_
      refine p_iret dL_shade_88 rfl ?_ ?_
      · unfold s_shd; omega
      · rfl
  refine q_istore (pc' := 11) (L' := [(5, q_i (s_bl φ r (w_h i))), (0, q_i r), (1, q_i i), (2, q_r Γ 151), (3, q_r Γ 152), (4, q_r Γ 153)]) dL_shade_9 rfl (by decide) rfl ?_
  refine q_iload (pc' := 13) 0 dL_shade_11 rfl rfl ?_
  refine q_if_ge (tgt := 20) (pc' := 16) dL_shade_13 rfl rfl (by first | assumption | omega) (fun qc_13 => ?_) (fun qc_13 => ?_)
  · have pb := s_pt_b ok (r := s_bl φ r (w_h i)) (by omega) (by omega)
    have tb := s_tio_b ok (w_h i) (r := s_bl φ r (w_h i)) (by omega) (by omega)
    refine q_iload (pc' := 22) 0 dL_shade_20 rfl rfl ?_
    refine q_iload (pc' := 24) 0 dL_shade_22 rfl rfl ?_
    refine q_aloadn (pc' := 25) 3 dL_shade_24 rfl rfl ?_
    refine q_iconst (pc' := 26) dL_shade_25 rfl ?_
    refine q_iload (pc' := 28) 0 dL_shade_26 rfl rfl ?_
    refine q_imul (pc' := 29) dL_shade_28 rfl ?_
    refine q_iconst (pc' := 30) dL_shade_29 rfl ?_
    refine q_iadd (pc' := 31) dL_shade_30 rfl ?_
    refine p_iald (pc' := 32) dL_shade_31 rfl kc151 (by first | assumption | omega) (by first | assumption | omega) (by decide) (fun qy_31 eqy_31 rqy_31 => ?_)
    have vqy_31 : qy_31 = s_pt φ (s_bl φ r (w_h i)) 2 := eqy_31.trans (w_pt H (by first | assumption | omega) (by first | assumption | omega) (by first | assumption | omega) (by first | assumption | omega))
    rw [vqy_31]
    refine q_iloadn (pc' := 33) 2 dL_shade_32 rfl rfl ?_
    refine q_aloadn (pc' := 34) 3 dL_shade_33 rfl rfl ?_
    refine q_aloadn (pc' := 35) 4 dL_shade_34 rfl rfl ?_
    refine q_aload (pc' := 37) 5 dL_shade_35 rfl rfl ?_
    refine q_callSI (pc' := 40) dL_shade_37 rfl lL_16 iL_lies (c_L_lies (by first | assumption | omega) (by first | assumption | omega) (by first | assumption | omega) (by first | assumption | omega) (by first | assumption | omega) (by first | assumption | omega) (by first | assumption | omega) (by first | assumption | omega)) rfl rfl (Nat.le_of_ble_eq_true rfl) (Nat.le_of_ble_eq_true rfl) (Nat.le_of_ble_eq_true rfl) ?_
    refine q_iloadn (pc' := 41) 1 dL_shade_40 rfl rfl ?_
    refine q_iloadn (pc' := 42) 2 dL_shade_41 rfl rfl ?_
    refine q_aloadn (pc' := 43) 3 dL_shade_42 rfl rfl ?_
    refine q_callSI (pc' := 46) dL_shade_43 rfl lL_10 iL_shadow (c_L_shadow (by first | assumption | omega) (by first | assumption | omega) (by first | assumption | omega) (by first | assumption | omega) (by first | assumption | omega) (by first | assumption | omega) (by first | assumption | omega) (by first | assumption | omega) (by first | assumption | omega) (by first | assumption | omega)) rfl rfl (Nat.le_of_ble_eq_true rfl) (Nat.le_of_ble_eq_true rfl) (Nat.le_of_ble_eq_true rfl) ?_
    refine p_sub [1, 2, 3, 4, 5] rfl ?_
    exact qlp_46 _ (by first | exact (if_pos (by omega)).symm | exact (if_neg (by omega)).symm) (by first | (exact ⟨by omega, by omega⟩) | exact s_si_b ok (by omega) (by omega) r0 (by omega) wb.1 wb.2)
  · refine q_iconst (pc' := 17) dL_shade_16 rfl ?_
    refine q_goto (pc' := 46) dL_shade_17 rfl ?_
    refine p_sub [1, 2, 3, 4, 5] rfl ?_
    exact qlp_46 _ (by first | exact (if_pos (by omega)).symm | exact (if_neg (by omega)).symm) (by first | (exact ⟨by omega, by omega⟩) | exact s_si_b ok (by omega) (by omega) r0 (by omega) wb.1 wb.2)
