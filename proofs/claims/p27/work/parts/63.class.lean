set_option maxRecDepth 20000 in
set_option maxHeartbeats 4000000 in
theorem c_X7_stepOf {Γ : q_G} {S : q_S} {φ : Int → Int} {r : Int} (FF : s_F S 1 φ) (ok : s_ok φ) (r0 : 0 ≤ r) (r1 : r < φ 0) : q_Sp Γ mX7_stepOf 0 0 0 [q_r Γ 20, q_i r] (KC, S) (q_ev (some (q_i (s_p5 (φ 0 - 1 - r).toNat))) (KC, S)) := by
  show q_Go Γ mX7_stepOf 0 0 0 0 [(0, q_r Γ 20), (1, q_i r)] [] (KC, S) (q_ev (some (q_i (s_p5 (φ 0 - 1 - r).toNat))) (KC, S))
  have rw0 := s_rows_b ok
  refine q_gets (pc' := 3) dX7_stepOf_0 rfl (i := 2) (by decide) wX7_36 ?_
  refine q_aloadn (pc' := 4) 0 dX7_stepOf_3 rfl rfl ?_
  refine p_getR (pc' := 7) (f := 1) dX7_stepOf_4 rfl fX7_28 kc20 rfl ?_
  refine p_getJ (pc' := 10) (kz := 0) dX7_stepOf_7 rfl fX7_39 kc1 rfl rfl (fun qy_7 eqy_7 rqy_7 => ?_)
  have vqy_7 : qy_7 = φ 0 := eqy_7.trans (s_F_0 FF)
  rw [vqy_7]
  refine q_iconst (pc' := 11) dX7_stepOf_10 rfl ?_
  refine q_isub (pc' := 12) dX7_stepOf_11 rfl ?_
  refine q_iloadn (pc' := 13) 1 dX7_stepOf_12 rfl rfl ?_
  refine q_isub (pc' := 14) dX7_stepOf_13 rfl ?_
  refine p_tald (pc' := 15) dX7_stepOf_14 rfl (by decide) (by first | assumption | omega) (by show φ 0 - 1 - r < 7; omega) (by first | assumption | omega) (fun qy_14 eqy_14 => ?_)
  refine p_iret dX7_stepOf_15 rfl ?_ ?_
  · exact eqy_14.trans (s_tab2 (by omega) (by omega))
  · rfl
set_option maxRecDepth 20000 in
set_option maxHeartbeats 4000000 in
theorem c_X7_shadeOn {Γ : q_G} {S : q_S} {φ : Int → Int} {h : Int} {r p : Int} {tl : Int → Int} (FF : s_F S 1 φ) (ok : s_ok φ) (LK : s_lk S φ h) (h0 : 0 ≤ h) (h1 : h < 10) (p0 : 0 ≤ p) (p1 : p ≤ φ 0) (r0 : 0 ≤ r) (r1 : r < φ 0) (HT : ∀ q, 0 ≤ q → q < p → 0 ≤ S 23 q ∧ S 23 q < φ 0) (HH : ∀ q, 0 ≤ q → q < p → S 24 (S 23 q) = s_pt φ (S 23 q) 1 * s_ti φ (S 23 q) (tl (S 23 q)) h) (htl : ∀ r, 0 ≤ tl r ∧ tl r < 5) : q_Sp Γ mX7_shadeOn 2 0 0 [q_r Γ 20, q_i r, q_i p] (KC, S) (q_ev (some (q_i (s_sd φ tl (S 23) r h p.toNat))) (KC, S)) := by
  show q_Go Γ mX7_shadeOn 2 0 0 0 [(0, q_r Γ 20), (1, q_i r), (2, q_i p)] [] (KC, S) (q_ev (some (q_i (s_sd φ tl (S 23) r h p.toNat))) (KC, S))
  have rw0 := s_rows_b ok
  refine q_iconst (pc' := 1) dX7_shadeOn_0 rfl ?_
  refine q_istoren (pc' := 2) (L' := [(3, q_i 0), (0, q_r Γ 20), (1, q_i r), (2, q_i p)]) dX7_shadeOn_1 rfl rfl (by decide) rfl ?_
  refine q_iconst (pc' := 3) dX7_shadeOn_2 rfl ?_
  refine q_istore (pc' := 5) (L' := [(4, q_i 0), (3, q_i 0), (0, q_r Γ 20), (1, q_i r), (2, q_i p)]) dX7_shadeOn_3 rfl (by decide) rfl ?_
  have qlp_5 : ∀ (qn_5 : Nat) (hi k : Int), (0 ≤ k) → (k ≤ p) → (hi = s_sd φ tl (S 23) r h k.toNat) → ((6 - k).toNat) = qn_5 → q_Go Γ mX7_shadeOn 2 0 0 5 [(0, q_r Γ 20), (1, q_i r), (2, q_i p), (3, q_i hi), (4, q_i k)] [] (KC, S) (q_ev (some (q_i (s_sd φ tl (S 23) r h p.toNat))) (KC, S)) := by
    intro qn_5
    induction qn_5 using Nat.strongRecOn with
    | ind qn_5 qih_5 =>
      intro hi k qa_5_0 qa_5_1 qa_5_2 qhn_5
      subst qhn_5
      have sdb := s_sh_sd ok (tl := tl) htl r0 (show r < 6 by omega) h0 h1 k.toNat (T := S 23) (fun q q0 q1 => by have := HT q q0 (by omega); omega)
      rw [← qa_5_2] at sdb
      refine q_iload (pc' := 7) 4 dX7_shadeOn_5 rfl rfl ?_
      refine q_iloadn (pc' := 8) 2 dX7_shadeOn_7 rfl rfl ?_
      refine q_icmp_ge (tgt := 48) (pc' := 11) dX7_shadeOn_8 rfl rfl (by first | assumption | omega) (by first | assumption | omega) (fun qc_8 => ?_) (fun qc_8 => ?_)
      · refine q_iloadn (pc' := 49) 3 dX7_shadeOn_48 rfl rfl ?_
        refine p_iret dX7_shadeOn_49 rfl ?_ ?_
        · rw [qa_5_2, show k = p by omega]
        · rfl
      · refine q_aloadn (pc' := 12) 0 dX7_shadeOn_11 rfl rfl ?_
        refine p_getR (pc' := 15) (f := 23) dX7_shadeOn_12 rfl fX7_22 kc20 rfl ?_
        refine q_iload (pc' := 17) 4 dX7_shadeOn_15 rfl rfl ?_
        refine p_iald (pc' := 18) dX7_shadeOn_17 rfl kc23 (by first | assumption | omega) (by first | assumption | omega) (by decide) (fun qy_17 eqy_17 rqy_17 => ?_)
        have tk := HT k (by omega) (by omega)
        rw [eqy_17]
        refine q_istore (pc' := 20) (L' := [(5, q_i (S 23 k)), (0, q_r Γ 20), (1, q_i r), (2, q_i p), (3, q_i hi), (4, q_i k)]) dX7_shadeOn_18 rfl (by decide) rfl ?_
        refine q_iloadn (pc' := 21) 4 dX7_shadeOn_20 rfl rfl ?_
        refine q_aloadn (pc' := 22) 1 dX7_shadeOn_21 rfl rfl ?_
        refine p_getR (pc' := 25) (f := 14) dX7_shadeOn_22 rfl fX7_32 kc20 rfl ?_
        refine q_iload (pc' := 27) 0 dX7_shadeOn_25 rfl rfl ?_
        refine q_iloadn (pc' := 28) 2 dX7_shadeOn_27 rfl rfl ?_
        refine q_aloadn (pc' := 29) 1 dX7_shadeOn_28 rfl rfl ?_
        refine p_getR (pc' := 32) (f := 24) dX7_shadeOn_29 rfl fX7_25 kc20 rfl ?_
        refine q_iload (pc' := 34) 0 dX7_shadeOn_32 rfl rfl ?_
        refine p_iald (pc' := 35) dX7_shadeOn_34 rfl kc24 (by first | assumption | omega) (by first | assumption | omega) (by decide) (fun qy_34 eqy_34 rqy_34 => ?_)
        have tlk := htl (S 23 k)
        have tib := s_ti_b (φ := φ) (r := S 23 k) (h := h) tlk.1
        have plk := (s_pt_b ok (r := S 23 k) tk.1 (by omega)).2.1
        have mb := q_mulb plk.1 plk.2 tib.1 (show s_ti φ (S 23 k) (tl (S 23 k)) h ≤ 4 by omega)
        have shb := s_sh_b ok tk.1 (show S 23 k < 6 by omega) tib.1 (show s_ti φ (S 23 k) (tl (S 23 k)) h ≤ 4 by omega) r0 (show r < 6 by omega) h0 h1
        rw [show qy_34 = s_pt φ (S 23 k) 1 * s_ti φ (S 23 k) (tl (S 23 k)) h from eqy_34.trans (HH k (by omega) (by omega))]
        refine q_callVI (pc' := 38) dX7_shadeOn_35 rfl lX7_93 iX2_shadow kc14 rfl (c_X2_shadow LK ok rw0 h0 h1 tk.1 tk.2 (by omega) (by omega) (by omega) (by omega)) rfl rfl (Nat.le_of_ble_eq_true rfl) (Nat.le_of_ble_eq_true rfl) (Nat.le_of_ble_eq_true rfl) ?_
        refine p_eq (y := s_sh φ (S 23 k) (s_ti φ (S 23 k) (tl (S 23 k)) h) r h) (s_sh_lss ok tk.1 (by omega) tib.1 (by omega)).symm ?_
        refine p_max (pc' := 41) dX7_shadeOn_38 rfl wX7_74 (Nat.le_of_ble_eq_true rfl) (Nat.le_of_ble_eq_true rfl) (by first | assumption | omega) (by first | assumption | omega) (fun qy_38 eqy_38 => ?_)
        refine q_istoren (pc' := 42) (L' := [(3, q_i qy_38), (5, q_i (S 23 k)), (0, q_r Γ 20), (1, q_i r), (2, q_i p), (4, q_i k)]) dX7_shadeOn_41 rfl rfl (by decide) rfl ?_
        refine q_iinc (pc' := 45) 5 (L' := [(4, q_i (k + 1)), (3, q_i qy_38), (5, q_i (S 23 k)), (0, q_r Γ 20), (1, q_i r), (2, q_i p)]) dX7_shadeOn_42 rfl rfl (by decide) rfl ?_
        refine q_goto (pc' := 5) dX7_shadeOn_45 rfl ?_
        refine p_sub [3, 4, 5, 1, 0] rfl ?_
        exact qih_5 _ (by omega) _ _ (by first | assumption | omega) (by first | assumption | omega) (by rw [s_sd_s (by omega), ← qa_5_2]; omega) rfl
  refine p_sub [2, 3, 4, 1, 0] rfl ?_
  exact qlp_5 _ _ _ (by first | assumption | omega) (by first | assumption | omega) (by rfl) rfl
set_option maxRecDepth 20000 in
set_option maxHeartbeats 4000000 in
theorem c_X7_sortRows {Γ : q_G} {S : q_S} {φ : Int → Int} {h : Int}  (FF : s_F S 1 φ) (ok : s_ok φ) (hH : S 14 1 = h) (h0 : 0 ≤ h) (h1 : h < 10) : q_Sp Γ mX7_sortRows 1 0 0 [q_r Γ 20] (KC, S) (fun v9 w9 => v9 = none ∧ ∃ S2, w9 = (KC, S2) ∧ (∀ a, a ≠ 23 → S2 a = S a) ∧ s_so (s_Vd φ h) (S2 23) (φ 0)) := by
  show q_Go Γ mX7_sortRows 1 0 0 0 [(0, q_r Γ 20)] [] (KC, S) (fun v9 w9 => v9 = none ∧ ∃ S2, w9 = (KC, S2) ∧ (∀ a, a ≠ 23 → S2 a = S a) ∧ s_so (s_Vd φ h) (S2 23) (φ 0))
  have rw0 := s_rows_b ok
  refine q_iconst (pc' := 1) dX7_sortRows_0 rfl ?_
  refine q_istoren (pc' := 2) (L' := [(1, q_i 0), (0, q_r Γ 20)]) dX7_sortRows_1 rfl rfl (by decide) rfl ?_
  have qlp_2 : ∀ (qn_2 : Nat) (S2 : q_S) (m : Int), (0 ≤ m) → (m ≤ φ 0) → (∀ a, a ≠ 23 → S2 a = S a) → (s_so (s_Vd φ h) (S2 23) m) → ((6 - m).toNat) = qn_2 → q_Go Γ mX7_sortRows 1 0 0 2 [(0, q_r Γ 20), (1, q_i m)] [] (KC, S2) (fun v9 w9 => v9 = none ∧ ∃ S2, w9 = (KC, S2) ∧ (∀ a, a ≠ 23 → S2 a = S a) ∧ s_so (s_Vd φ h) (S2 23) (φ 0)) := by
    intro qn_2
    induction qn_2 using Nat.strongRecOn with
    | ind qn_2 qih_2 =>
      intro S2 m qa_2_0 qa_2_1 qa_2_2 qa_2_3 qhn_2
      subst qhn_2
      have FF2 : s_F S2 1 φ := s_F_o FF (fun a h1 h2 _ => qa_2_2 a (by omega))
      refine q_iloadn (pc' := 3) 1 dX7_sortRows_2 rfl rfl ?_
      refine q_aloadn (pc' := 4) 0 dX7_sortRows_3 rfl rfl ?_
      refine p_getR (pc' := 7) (f := 1) dX7_sortRows_4 rfl fX7_28 kc20 rfl ?_
      refine p_getJ (pc' := 10) (kz := 0) dX7_sortRows_7 rfl fX7_39 kc1 rfl rfl (fun qy_7 eqy_7 rqy_7 => ?_)
      have vqy_7 : qy_7 = φ 0 := eqy_7.trans (s_F_0 FF2)
      rw [vqy_7]
      refine q_icmp_ge (tgt := 71) (pc' := 13) dX7_sortRows_10 rfl rfl (by first | assumption | omega) (by first | assumption | omega) (fun qc_10 => ?_) (fun qc_10 => ?_)
      · exact q_vret dX7_sortRows_71 rfl ⟨rfl, _, rfl, qa_2_2, by rw [show φ 0 = m by omega]; exact qa_2_3⟩
      · refine q_iloadn (pc' := 14) 1 dX7_sortRows_13 rfl rfl ?_
        refine q_istoren (pc' := 15) (L' := [(2, q_i m), (0, q_r Γ 20), (1, q_i m)]) dX7_sortRows_14 rfl rfl (by decide) rfl ?_
        have qlp_15 : ∀ (qn_15 : Nat) (S3 : q_S) (u : Int), (0 ≤ u) → (u ≤ m) → (∀ a, a ≠ 23 → S3 a = S a) → (∀ j, 0 ≤ j → j < u → S3 23 j = S2 23 j) → (∀ j, u < j → j ≤ m → S3 23 j = S2 23 (j - 1) ∧ s_Vd φ h m < s_Vd φ h (S2 23 (j - 1))) → (u.toNat) = qn_15 → q_Go Γ mX7_sortRows 1 0 0 15 [(0, q_r Γ 20), (1, q_i m), (2, q_i u)] [] (KC, S3) (fun v9 w9 => v9 = none ∧ ∃ S2, w9 = (KC, S2) ∧ (∀ a, a ≠ 23 → S2 a = S a) ∧ s_so (s_Vd φ h) (S2 23) (φ 0)) := by
          intro qn_15
          induction qn_15 using Nat.strongRecOn with
          | ind qn_15 qih_15 =>
            intro S3 u qa_15_0 qa_15_1 qa_15_2 qa_15_3 qa_15_4 qhn_15
            subst qhn_15
            have FF3 : s_F S3 1 φ := s_F_o FF (fun a h1 h2 _ => qa_15_2 a (by omega))
            have hH3 : S3 14 1 = h := by rw [qa_15_2 14 (by decide)]; exact hH
            refine q_iloadn (pc' := 16) 2 dX7_sortRows_15 rfl rfl ?_
            refine q_if_le (tgt := 58) (pc' := 19) dX7_sortRows_16 rfl rfl (by first | assumption | omega) (fun qc_16 => ?_) (fun qc_16 => ?_)
            · refine q_aloadn (pc' := 59) 0 dX7_sortRows_58 rfl rfl ?_
              refine p_getR (pc' := 62) (f := 23) dX7_sortRows_59 rfl fX7_22 kc20 rfl ?_
              refine q_iloadn (pc' := 63) 2 dX7_sortRows_62 rfl rfl ?_
              refine q_iloadn (pc' := 64) 1 dX7_sortRows_63 rfl rfl ?_
              refine p_iast (pc' := 65) dX7_sortRows_64 rfl kc23 (by first | assumption | omega) (by first | assumption | omega) (by decide) (by first | assumption | omega) ?_
              refine q_iinc (pc' := 68) 1 (L' := [(1, q_i (m + 1)), (0, q_r Γ 20), (2, q_i u)]) dX7_sortRows_65 rfl rfl (by decide) rfl ?_
              refine q_goto (pc' := 2) dX7_sortRows_68 rfl ?_
              refine p_sub [1, 0] rfl ?_
              exact qih_2 _ (by omega) _ _ (by first | assumption | omega) (by first | assumption | omega) (by intro a ha; rw [q_up_ne ha]; exact qa_15_2 a ha) (by first | exact s_so_ins qa_2_3 (by omega) (by omega) (fun j x y => by rw [q_up_nz (by omega)]; exact qa_15_3 j x y) q_up_eq (fun j x y => by rw [q_up_nz (by omega)]; exact qa_15_4 j x y) (Or.inl (by omega)) | exact s_so_ins qa_2_3 (by omega) (by omega) (fun j x y => by rw [q_up_nz (by omega)]; exact qa_15_3 j x y) q_up_eq (fun j x y => by rw [q_up_nz (by omega)]; exact qa_15_4 j x y) (Or.inr (by have := s_Vd_d (φ := φ) (a := m) (b := S2 23 (u - 1)) (h := h); omega))) rfl
            · refine q_aloadn (pc' := 20) 0 dX7_sortRows_19 rfl rfl ?_
              refine p_getR (pc' := 23) (f := 14) dX7_sortRows_20 rfl fX7_32 kc20 rfl ?_
              refine q_iloadn (pc' := 24) 1 dX7_sortRows_23 rfl rfl ?_
              refine q_aloadn (pc' := 25) 0 dX7_sortRows_24 rfl rfl ?_
              refine p_getR (pc' := 28) (f := 23) dX7_sortRows_25 rfl fX7_22 kc20 rfl ?_
              refine q_iloadn (pc' := 29) 2 dX7_sortRows_28 rfl rfl ?_
              refine q_iconst (pc' := 30) dX7_sortRows_29 rfl ?_
              refine q_isub (pc' := 31) dX7_sortRows_30 rfl ?_
              refine p_iald (pc' := 32) dX7_sortRows_31 rfl kc23 (by first | assumption | omega) (by first | assumption | omega) (by decide) (fun qy_31 eqy_31 rqy_31 => ?_)
              have e31 : qy_31 = S2 23 (u - 1) := eqy_31.trans (qa_15_3 (u - 1) (by omega) (by omega))
              have t31 := qa_2_3.1 (u - 1) (by omega) (by omega)
              rw [e31]
              have db := s_dist_b ok h (a := m) (b := S2 23 (u - 1)) (by omega) (by omega) (by omega) (by omega)
              refine q_callVI (pc' := 35) dX7_sortRows_32 rfl lX7_80 iX2_ahead kc14 rfl (c_X2_ahead FF3 ok hH3 h0 h1 (by omega) (by omega) (by omega) (by omega)) rfl rfl (Nat.le_of_ble_eq_true rfl) (Nat.le_of_ble_eq_true rfl) (Nat.le_of_ble_eq_true rfl) ?_
              refine q_if_le (tgt := 58) (pc' := 38) dX7_sortRows_35 rfl rfl (by first | assumption | omega) (fun qc_35 => ?_) (fun qc_35 => ?_)
              · refine q_aloadn (pc' := 59) 0 dX7_sortRows_58 rfl rfl ?_
                refine p_getR (pc' := 62) (f := 23) dX7_sortRows_59 rfl fX7_22 kc20 rfl ?_
                refine q_iloadn (pc' := 63) 2 dX7_sortRows_62 rfl rfl ?_
                refine q_iloadn (pc' := 64) 1 dX7_sortRows_63 rfl rfl ?_
                refine p_iast (pc' := 65) dX7_sortRows_64 rfl kc23 (by first | assumption | omega) (by first | assumption | omega) (by decide) (by first | assumption | omega) ?_
                refine q_iinc (pc' := 68) 1 (L' := [(1, q_i (m + 1)), (0, q_r Γ 20), (2, q_i u)]) dX7_sortRows_65 rfl rfl (by decide) rfl ?_
                refine q_goto (pc' := 2) dX7_sortRows_68 rfl ?_
                refine p_sub [1, 0] rfl ?_
                exact qih_2 _ (by omega) _ _ (by first | assumption | omega) (by first | assumption | omega) (by intro a ha; rw [q_up_ne ha]; exact qa_15_2 a ha) (by first | exact s_so_ins qa_2_3 (by omega) (by omega) (fun j x y => by rw [q_up_nz (by omega)]; exact qa_15_3 j x y) q_up_eq (fun j x y => by rw [q_up_nz (by omega)]; exact qa_15_4 j x y) (Or.inl (by omega)) | exact s_so_ins qa_2_3 (by omega) (by omega) (fun j x y => by rw [q_up_nz (by omega)]; exact qa_15_3 j x y) q_up_eq (fun j x y => by rw [q_up_nz (by omega)]; exact qa_15_4 j x y) (Or.inr (by have := s_Vd_d (φ := φ) (a := m) (b := S2 23 (u - 1)) (h := h); omega))) rfl
              · refine q_aloadn (pc' := 39) 0 dX7_sortRows_38 rfl rfl ?_
                refine p_getR (pc' := 42) (f := 23) dX7_sortRows_39 rfl fX7_22 kc20 rfl ?_
                refine q_iloadn (pc' := 43) 2 dX7_sortRows_42 rfl rfl ?_
                refine q_aloadn (pc' := 44) 0 dX7_sortRows_43 rfl rfl ?_
                refine p_getR (pc' := 47) (f := 23) dX7_sortRows_44 rfl fX7_22 kc20 rfl ?_
                refine q_iloadn (pc' := 48) 2 dX7_sortRows_47 rfl rfl ?_
                refine q_iconst (pc' := 49) dX7_sortRows_48 rfl ?_
                refine q_isub (pc' := 50) dX7_sortRows_49 rfl ?_
                refine p_iald (pc' := 51) dX7_sortRows_50 rfl kc23 (by first | assumption | omega) (by first | assumption | omega) (by decide) (fun qy_50 eqy_50 rqy_50 => ?_)
                refine p_iast (pc' := 52) dX7_sortRows_51 rfl kc23 (by first | assumption | omega) (by first | assumption | omega) (by decide) (by first | assumption | omega) ?_
                refine q_iinc (pc' := 55) 2 (L' := [(2, q_i (u + (-1))), (0, q_r Γ 20), (1, q_i m)]) dX7_sortRows_52 rfl rfl (by decide) rfl ?_
                refine q_goto (pc' := 15) dX7_sortRows_55 rfl ?_
                refine p_sub [1, 2, 0] rfl ?_
                exact qih_15 _ (by omega) _ _ (by first | assumption | omega) (by first | assumption | omega) (by intro a ha; rw [q_up_ne ha]; exact qa_15_2 a ha) (by intro j x y; rw [q_up_nz (by omega)]; exact qa_15_3 j x (by omega)) (by intro j x y; rcases (show j = u ∨ u < j by omega) with g | g; (subst g; rw [q_up_eq]; refine ⟨eqy_50.trans (qa_15_3 _ (by omega) (by omega)), ?_⟩; have := s_Vd_d (φ := φ) (a := m) (b := S2 23 (j - 1)) (h := h); omega); (rw [q_up_nz (by omega)]; exact qa_15_4 j g y)) rfl
        refine p_sub [1, 2, 0] rfl ?_
        exact qlp_15 _ _ _ (by first | assumption | omega) (by first | assumption | omega) (by assumption) (by intro j x y; rfl) (by intro j x y; omega) rfl
  refine p_sub [1, 0] rfl ?_
  exact qlp_2 _ _ _ (by first | assumption | omega) (by first | assumption | omega) (by intro a ha; rfl) (by exact s_so_0) rfl
set_option maxRecDepth 20000 in
set_option maxHeartbeats 4000000 in
theorem c_X7_findTops {Γ : q_G} {S : q_S} {φ : Int → Int}  (FF : s_F S 1 φ) (ok : s_ok φ) : q_Sp Γ mX7_findTops 3 0 0 [q_r Γ 20] (KC, S) (fun v9 w9 => v9 = none ∧ ∃ S2, w9 = (KC, S2) ∧ s_offS S S2 ∧ S2 21 = S 21 ∧ ∀ r, 0 ≤ r → r < φ 0 → S2 22 r = s_tp φ r) := by
  show q_Go Γ mX7_findTops 3 0 0 0 [(0, q_r Γ 20)] [] (KC, S) (fun v9 w9 => v9 = none ∧ ∃ S2, w9 = (KC, S2) ∧ s_offS S S2 ∧ S2 21 = S 21 ∧ ∀ r, 0 ≤ r → r < φ 0 → S2 22 r = s_tp φ r)
  have rw0 := s_rows_b ok
  refine q_iconst (pc' := 1) dX7_findTops_0 rfl ?_
  refine q_istoren (pc' := 2) (L' := [(1, q_i 0), (0, q_r Γ 20)]) dX7_findTops_1 rfl rfl (by decide) rfl ?_
  have qlp_2 : ∀ (qn_2 : Nat) (S2 : q_S) (k : Int), (0 ≤ k) → (k ≤ 6) → (s_offS S S2) → (S2 21 = S 21) → (∀ r, 0 ≤ r → r < k → S2 22 r = 0) → ((6 - k).toNat) = qn_2 → q_Go Γ mX7_findTops 3 0 0 2 [(0, q_r Γ 20), (1, q_i k)] [] (KC, S2) (fun v9 w9 => v9 = none ∧ ∃ S2, w9 = (KC, S2) ∧ s_offS S S2 ∧ S2 21 = S 21 ∧ ∀ r, 0 ≤ r → r < φ 0 → S2 22 r = s_tp φ r) := by
    intro qn_2
    induction qn_2 using Nat.strongRecOn with
    | ind qn_2 qih_2 =>
      intro S2 k qa_2_0 qa_2_1 qa_2_2 qa_2_3 qa_2_4 qhn_2
      subst qhn_2
      refine q_iloadn (pc' := 3) 1 dX7_findTops_2 rfl rfl ?_
      refine q_bipush (pc' := 5) dX7_findTops_3 rfl rfl ?_
      refine q_icmp_ge (tgt := 21) (pc' := 8) dX7_findTops_5 rfl rfl (by first | assumption | omega) (by decide) (fun qc_5 => ?_) (fun qc_5 => ?_)
      · refine q_iconst (pc' := 22) dX7_findTops_21 rfl ?_
        refine q_istoren (pc' := 23) (L' := [(1, q_i 0), (0, q_r Γ 20)]) dX7_findTops_22 rfl rfl (by decide) rfl ?_
        have qlp_23 : ∀ (qn_23 : Nat) (S3 : q_S) (k : Int), (0 ≤ k) → (k ≤ 10) → (s_offS S S3) → (S3 21 = S 21) → (∀ r, 0 ≤ r → r < φ 0 → S3 22 r = s_tpN φ r k.toNat) → ((10 - k).toNat) = qn_23 → q_Go Γ mX7_findTops 3 0 0 23 [(0, q_r Γ 20), (1, q_i k)] [] (KC, S3) (fun v9 w9 => v9 = none ∧ ∃ S2, w9 = (KC, S2) ∧ s_offS S S2 ∧ S2 21 = S 21 ∧ ∀ r, 0 ≤ r → r < φ 0 → S2 22 r = s_tp φ r) := by
          intro qn_23
          induction qn_23 using Nat.strongRecOn with
          | ind qn_23 qih_23 =>
            intro S3 k qa_23_0 qa_23_1 qa_23_2 qa_23_3 qa_23_4 qhn_23
            subst qhn_23
            have FF3 : s_F S3 1 φ := s_F_S FF qa_23_2
            refine q_iloadn (pc' := 24) 1 dX7_findTops_23 rfl rfl ?_
            refine q_bipush (pc' := 26) dX7_findTops_24 rfl rfl ?_
            refine q_icmp_ge (tgt := 86) (pc' := 29) dX7_findTops_26 rfl rfl (by first | assumption | omega) (by decide) (fun qc_26 => ?_) (fun qc_26 => ?_)
            · exact q_vret dX7_findTops_86 rfl ⟨rfl, _, rfl, qa_23_2, qa_23_3, fun r x y => by rw [qa_23_4 r x y, show k = 10 by omega]; rfl⟩
            · refine q_aloadn (pc' := 30) 0 dX7_findTops_29 rfl rfl ?_
              refine p_getR (pc' := 33) (f := 14) dX7_findTops_30 rfl fX7_32 kc20 rfl ?_
              refine q_iloadn (pc' := 34) 1 dX7_findTops_33 rfl rfl ?_
              refine q_callVQ (pc' := 37) dX7_findTops_34 rfl lX7_47 iX2_look kc14 rfl (c_X2_look FF3 ok (by omega) (by omega)) rfl rfl (Nat.le_of_ble_eq_true rfl) (Nat.le_of_ble_eq_true rfl) (Nat.le_of_ble_eq_true rfl) (fun vq wq hq => ?_)
              obtain ⟨rfl, qS34, rfl, qo34, qk34⟩ := hq
              have ql34 := s_offK_L qo34
              have qF34 : s_F qS34 1 φ := s_F_K (by assumption) qo34
              have qh34 := qk34.1
              show q_Go Γ mX7_findTops 3 0 0 37 [(0, q_r Γ 20), (1, q_i k)] [] (KC, qS34) (fun v9 w9 => v9 = none ∧ ∃ S2, w9 = (KC, S2) ∧ s_offS S S2 ∧ S2 21 = S 21 ∧ ∀ r, 0 ≤ r → r < φ 0 → S2 22 r = s_tp φ r)
              refine q_iconst (pc' := 38) dX7_findTops_37 rfl ?_
              refine q_istoren (pc' := 39) (L' := [(2, q_i 0), (0, q_r Γ 20), (1, q_i k)]) dX7_findTops_38 rfl rfl (by decide) rfl ?_
              have qlp_39 : ∀ (qn_39 : Nat) (S4 : q_S) (j : Int), (0 ≤ j) → (j ≤ φ 0) → (s_offS S S4) → (S4 21 = S 21) → (∀ r, 0 ≤ r → r < j → S4 22 r = s_tpN φ r (k + 1).toNat) → (∀ r, j ≤ r → r < φ 0 → S4 22 r = s_tpN φ r k.toNat) → (S4 16 = qS34 16) → ((6 - j).toNat) = qn_39 → q_Go Γ mX7_findTops 3 0 0 39 [(0, q_r Γ 20), (1, q_i k), (2, q_i j)] [] (KC, S4) (fun v9 w9 => v9 = none ∧ ∃ S2, w9 = (KC, S2) ∧ s_offS S S2 ∧ S2 21 = S 21 ∧ ∀ r, 0 ≤ r → r < φ 0 → S2 22 r = s_tp φ r) := by
                intro qn_39
                induction qn_39 using Nat.strongRecOn with
                | ind qn_39 qih_39 =>
                  intro S4 j qa_39_0 qa_39_1 qa_39_2 qa_39_3 qa_39_4 qa_39_5 qa_39_6 qhn_39
                  subst qhn_39
                  have FF4 : s_F S4 1 φ := s_F_S FF qa_39_2
                  refine q_iloadn (pc' := 40) 2 dX7_findTops_39 rfl rfl ?_
                  refine q_aloadn (pc' := 41) 0 dX7_findTops_40 rfl rfl ?_
                  refine p_getR (pc' := 44) (f := 1) dX7_findTops_41 rfl fX7_28 kc20 rfl ?_
                  refine p_getJ (pc' := 47) (kz := 0) dX7_findTops_44 rfl fX7_39 kc1 rfl rfl (fun qy_44 eqy_44 rqy_44 => ?_)
                  have vqy_44 : qy_44 = φ 0 := eqy_44.trans (s_F_0 FF4)
                  rw [vqy_44]
                  refine q_icmp_ge (tgt := 80) (pc' := 50) dX7_findTops_47 rfl rfl (by first | assumption | omega) (by first | assumption | omega) (fun qc_47 => ?_) (fun qc_47 => ?_)
                  · refine q_iinc (pc' := 83) 1 (L' := [(1, q_i (k + 1)), (0, q_r Γ 20), (2, q_i j)]) dX7_findTops_80 rfl rfl (by decide) rfl ?_
                    refine q_goto (pc' := 23) dX7_findTops_83 rfl ?_
                    refine p_sub [1, 0] rfl ?_
                    exact qih_23 _ (by omega) _ _ (by first | assumption | omega) (by first | assumption | omega) (by assumption) (by assumption) (by intro r x y; exact qa_39_4 r x (by omega)) rfl
                  · refine q_aloadn (pc' := 51) 0 dX7_findTops_50 rfl rfl ?_
                    refine p_getR (pc' := 54) (f := 22) dX7_findTops_51 rfl fX7_19 kc20 rfl ?_
                    refine q_iloadn (pc' := 55) 2 dX7_findTops_54 rfl rfl ?_
                    refine q_aloadn (pc' := 56) 0 dX7_findTops_55 rfl rfl ?_
                    refine p_getR (pc' := 59) (f := 22) dX7_findTops_56 rfl fX7_19 kc20 rfl ?_
                    refine q_iloadn (pc' := 60) 2 dX7_findTops_59 rfl rfl ?_
                    refine p_iald (pc' := 61) dX7_findTops_60 rfl kc22 (by first | assumption | omega) (by first | assumption | omega) (by decide) (fun qy_60 eqy_60 rqy_60 => ?_)
                    have e60 : qy_60 = s_tpN φ j k.toNat := eqy_60.trans (qa_39_5 j (by omega) (by omega))
                    have tb := (s_tpN_b (φ := φ) (r := j) k.toNat).1
                    refine q_aloadn (pc' := 62) 0 dX7_findTops_61 rfl rfl ?_
                    refine p_getR (pc' := 65) (f := 14) dX7_findTops_62 rfl fX7_32 kc20 rfl ?_
                    refine p_getR (pc' := 68) (f := 16) dX7_findTops_65 rfl fX7_71 kc14 rfl ?_
                    refine q_iloadn (pc' := 69) 2 dX7_findTops_68 rfl rfl ?_
                    refine p_iald (pc' := 70) dX7_findTops_69 rfl kc16 (by first | assumption | omega) (by first | assumption | omega) (by decide) (fun qy_69 eqy_69 rqy_69 => ?_)
                    have e69 : qy_69 = s_lim φ j k := by rw [eqy_69, qa_39_6]; exact (qk34.2.2 j (by omega) (by omega)).1
                    have lb := s_lim_b (φ := φ) (r := j) (h := k)
                    refine p_max (pc' := 73) dX7_findTops_70 rfl wX7_74 (Nat.le_of_ble_eq_true rfl) (Nat.le_of_ble_eq_true rfl) (by first | assumption | omega) (by first | assumption | omega) (fun qy_70 eqy_70 => ?_)
                    refine p_iast (pc' := 74) dX7_findTops_73 rfl kc22 (by first | assumption | omega) (by first | assumption | omega) (by decide) (by first | assumption | omega) ?_
                    refine q_iinc (pc' := 77) 2 (L' := [(2, q_i (j + 1)), (0, q_r Γ 20), (1, q_i k)]) dX7_findTops_74 rfl rfl (by decide) rfl ?_
                    refine q_goto (pc' := 39) dX7_findTops_77 rfl ?_
                    refine p_sub [1, 2, 0] rfl ?_
                    exact qih_39 _ (by omega) _ _ (by first | assumption | omega) (by first | assumption | omega) (by exact s_offS_u qa_39_2 (by decide) (by decide)) (by rw [q_up_ne (by decide)]; assumption) (by intro r x y; rcases (show r < j ∨ r = j by omega) with g | g; (rw [q_up_nz (by omega)]; exact qa_39_4 r x g); (subst g; rw [q_up_eq, s_tpN_s (by omega)]; omega)) (by intro r x y; rw [q_up_nz (by omega)]; exact qa_39_5 r (by omega) y) (by rw [q_up_ne (by decide)]; assumption) rfl
              refine p_sub [1, 2, 0] rfl ?_
              exact qlp_39 _ _ _ (by first | assumption | omega) (by first | assumption | omega) (by exact s_offS_t qa_23_2 (s_offS_K qo34)) (by rw [qo34 21 (by decide)]; assumption) (by intro r x y; omega) (by intro r x y; rw [qo34 22 (by decide)]; exact qa_23_4 r x y) (by rfl) rfl
        refine p_sub [1, 0] rfl ?_
        exact qlp_23 _ _ _ (by first | assumption | omega) (by first | assumption | omega) (by assumption) (by assumption) (by intro r x y; exact qa_2_4 r x (by omega)) rfl
      · refine q_aloadn (pc' := 9) 0 dX7_findTops_8 rfl rfl ?_
        refine p_getR (pc' := 12) (f := 22) dX7_findTops_9 rfl fX7_19 kc20 rfl ?_
        refine q_iloadn (pc' := 13) 1 dX7_findTops_12 rfl rfl ?_
        refine q_iconst (pc' := 14) dX7_findTops_13 rfl ?_
        refine p_iast (pc' := 15) dX7_findTops_14 rfl kc22 (by first | assumption | omega) (by first | assumption | omega) (by decide) (by first | assumption | omega) ?_
        refine q_iinc (pc' := 18) 1 (L' := [(1, q_i (k + 1)), (0, q_r Γ 20)]) dX7_findTops_15 rfl rfl (by decide) rfl ?_
        refine q_goto (pc' := 2) dX7_findTops_18 rfl ?_
        refine p_sub [1, 0] rfl ?_
        exact qih_2 _ (by omega) _ _ (by first | assumption | omega) (by first | assumption | omega) (by exact s_offS_u qa_2_2 (by decide) (by decide)) (by rw [q_up_ne (by decide)]; assumption) (by intro r x y; rcases (show r < k ∨ r = k by omega) with g | g; (rw [q_up_nz (by omega)]; exact qa_2_4 r x g); (subst g; rw [q_up_eq])) rfl
  refine p_sub [1, 0] rfl ?_
  exact qlp_2 _ _ _ (by first | assumption | omega) (by first | assumption | omega) (by exact s_offS_r) (by rfl) (by intro r x y; omega) rfl
set_option maxRecDepth 20000 in
set_option maxHeartbeats 4000000 in
theorem c_X7_layRows_s {Γ : q_G} {n : Nat} {S : q_S} {φ : Int → Int} {h : Int} {p x sum : Int} (ok : s_ok φ) (h0 : 0 ≤ h) (h1 : h < 10) (ih : ∀ m : Nat, m < n → s_LR Γ φ h m) (H : s_layH φ h S p x sum) (hn : n = (φ 0 - p).toNat) : q_Sp Γ mX7_layRows (n + 3) 0 0 [q_r Γ 20, q_i p, q_i x, q_i sum] (KC, S) (fun v9 w9 => v9 = none ∧ ∃ S2, w9 = (KC, S2) ∧ s_layQ φ h S S2 p (fun i => s_rch (φ 0) (S 23) (s_tp φ) p x i)) := by
  show q_Go Γ mX7_layRows (n + 3) 0 0 0 [(0, q_r Γ 20), (1, q_i p), (2, q_i x), (3, q_i sum)] [] (KC, S) (fun v9 w9 => v9 = none ∧ ∃ S2, w9 = (KC, S2) ∧ s_layQ φ h S S2 p (fun i => s_rch (φ 0) (S 23) (s_tp φ) p x i))
  have rw0 := s_rows_b ok
  have FF := H.1
  have lk := H.2.1
  have HT := H.2.2.1
  have Htp := H.2.2.2.1
  have hp := H.2.2.2.2.1
  have hx := H.2.2.2.2.2.1
  have hz := H.2.2.2.2.2.2.1
  have HH := H.2.2.2.2.2.2.2.1
  have hb := H.2.2.2.2.2.2.2.2.2
  have sb := s_lay_sum ok H h0 h1
  have p5b := s_p5_b (k := φ 0) rw0.1 rw0.2
  refine q_iloadn (pc' := 1) 1 dX7_layRows_0 rfl rfl ?_
  refine q_aloadn (pc' := 2) 0 dX7_layRows_1 rfl rfl ?_
  refine p_getR (pc' := 5) (f := 1) dX7_layRows_2 rfl fX7_28 kc20 rfl ?_
  refine p_getJ (pc' := 8) (kz := 0) dX7_layRows_5 rfl fX7_39 kc1 rfl rfl (fun qy_5 eqy_5 rqy_5 => ?_)
  have vqy_5 : qy_5 = φ 0 := eqy_5.trans (s_F_0 FF)
  rw [vqy_5]
  refine q_icmp_lt (tgt := 22) (pc' := 11) dX7_layRows_8 rfl rfl (by first | assumption | omega) (by first | assumption | omega) (fun qc_8 => ?_) (fun qc_8 => ?_)
  · refine q_aloadn (pc' := 23) 0 dX7_layRows_22 rfl rfl ?_
    refine p_getR (pc' := 26) (f := 23) dX7_layRows_23 rfl fX7_22 kc20 rfl ?_
    refine q_iloadn (pc' := 27) 1 dX7_layRows_26 rfl rfl ?_
    refine p_iald (pc' := 28) dX7_layRows_27 rfl kc23 (by first | assumption | omega) (by first | assumption | omega) (by decide) (fun qy_27 eqy_27 rqy_27 => ?_)
    obtain ⟨r, hr⟩ : ∃ r, r = S 23 p := ⟨_, rfl⟩
    rw [show qy_27 = r by rw [eqy_27, hr]]
    have rb : 0 ≤ r ∧ r < φ 0 := by rw [hr]; exact HT.1 p hp.1 (by omega)
    refine q_istore (pc' := 30) (L' := [(4, q_i r), (0, q_r Γ 20), (1, q_i p), (2, q_i x), (3, q_i sum)]) dX7_layRows_28 rfl (by decide) rfl ?_
    refine q_aloadn (pc' := 31) 1 dX7_layRows_30 rfl rfl ?_
    refine q_iload (pc' := 33) 0 dX7_layRows_31 rfl rfl ?_
    refine q_iloadn (pc' := 34) 2 dX7_layRows_33 rfl rfl ?_
    refine q_callVI (pc' := 37) dX7_layRows_34 rfl lX7_83 iX7_shadeOn kc20 rfl (c_X7_shadeOn (tl := (s_dg (φ 0) x)) FF ok lk h0 h1 hp.1 hp.2 (by omega) (by omega) (fun q q0 q1 => HT.1 q q0 (by omega)) HH (fun r => s_dg_b)) rfl rfl (by first | exact Nat.le_of_ble_eq_true rfl | omega) (by first | exact Nat.le_of_ble_eq_true rfl | omega) (by first | exact Nat.le_of_ble_eq_true rfl | omega) ?_
    refine q_istore (pc' := 39) (L' := [(5, q_i (s_sd φ (s_dg (φ 0) x) (S 23) r h p.toNat)), (4, q_i r), (0, q_r Γ 20), (1, q_i p), (2, q_i x), (3, q_i sum)]) dX7_layRows_37 rfl (by decide) rfl ?_
    refine q_aloadn (pc' := 40) 2 dX7_layRows_39 rfl rfl ?_
    refine q_iload (pc' := 42) 1 dX7_layRows_40 rfl rfl ?_
    refine q_callVI (pc' := 45) dX7_layRows_42 rfl lX7_64 iX7_stepOf kc20 rfl (c_X7_stepOf FF ok (by omega) (by omega)) rfl rfl (by first | exact Nat.le_of_ble_eq_true rfl | omega) (by first | exact Nat.le_of_ble_eq_true rfl | omega) (by first | exact Nat.le_of_ble_eq_true rfl | omega) ?_
    refine q_istore (pc' := 47) (L' := [(6, q_i (s_p5 (φ 0 - 1 - r).toNat)), (5, q_i (s_sd φ (s_dg (φ 0) x) (S 23) r h p.toNat)), (4, q_i r), (0, q_r Γ 20), (1, q_i p), (2, q_i x), (3, q_i sum)]) dX7_layRows_45 rfl (by decide) rfl ?_
    refine q_aloadn (pc' := 48) 3 dX7_layRows_47 rfl rfl ?_
    refine p_getR (pc' := 51) (f := 14) dX7_layRows_48 rfl fX7_32 kc20 rfl ?_
    refine p_getR (pc' := 54) (f := 16) dX7_layRows_51 rfl fX7_71 kc14 rfl ?_
    refine q_iload (pc' := 56) 2 dX7_layRows_54 rfl rfl ?_
    refine p_iald (pc' := 57) dX7_layRows_56 rfl kc16 (by first | assumption | omega) (by first | assumption | omega) (by decide) (fun qy_56 eqy_56 rqy_56 => ?_)
    rw [show qy_56 = s_lim φ r h from eqy_56.trans (lk.2.2 r rb.1 rb.2).1]
    refine q_istore (pc' := 59) (L' := [(7, q_i (s_lim φ r h)), (6, q_i (s_p5 (φ 0 - 1 - r).toNat)), (5, q_i (s_sd φ (s_dg (φ 0) x) (S 23) r h p.toNat)), (4, q_i r), (0, q_r Γ 20), (1, q_i p), (2, q_i x), (3, q_i sum)]) dX7_layRows_57 rfl (by decide) rfl ?_
    refine q_aloadn (pc' := 60) 4 dX7_layRows_59 rfl rfl ?_
    refine p_getR (pc' := 63) (f := 1) dX7_layRows_60 rfl fX7_28 kc20 rfl ?_
    refine p_getR (pc' := 66) (f := 3) dX7_layRows_63 rfl fX7_68 kc1 rfl ?_
    refine q_iload (pc' := 68) 3 dX7_layRows_66 rfl rfl ?_
    refine p_iald (pc' := 69) dX7_layRows_68 rfl kc3 (by first | assumption | omega) (by first | assumption | omega) (by decide) (fun qy_68 eqy_68 rqy_68 => ?_)
    have vqy_68 : qy_68 = s_pt φ (r) 1 := eqy_68.trans (s_F_3 FF (by first | assumption | omega) (by first | assumption | omega))
    rw [vqy_68]
    refine q_istore (pc' := 71) (L' := [(8, q_i (s_pt φ (r) 1)), (7, q_i (s_lim φ r h)), (6, q_i (s_p5 (φ 0 - 1 - r).toNat)), (5, q_i (s_sd φ (s_dg (φ 0) x) (S 23) r h p.toNat)), (4, q_i r), (0, q_r Γ 20), (1, q_i p), (2, q_i x), (3, q_i sum)]) dX7_layRows_69 rfl (by decide) rfl ?_
    refine q_aloadn (pc' := 72) 5 dX7_layRows_71 rfl rfl ?_
    refine p_getR (pc' := 75) (f := 14) dX7_layRows_72 rfl fX7_32 kc20 rfl ?_
    refine q_callVI (pc' := 78) dX7_layRows_75 rfl lX7_86 iX2_sun kc14 rfl (c_X2_sun FF ok lk.1 h0 h1) rfl rfl (by first | exact Nat.le_of_ble_eq_true rfl | omega) (by first | exact Nat.le_of_ble_eq_true rfl | omega) (by first | exact Nat.le_of_ble_eq_true rfl | omega) ?_
    refine q_istore (pc' := 80) (L' := [(9, q_i (s_sun h)), (8, q_i (s_pt φ (r) 1)), (7, q_i (s_lim φ r h)), (6, q_i (s_p5 (φ 0 - 1 - r).toNat)), (5, q_i (s_sd φ (s_dg (φ 0) x) (S 23) r h p.toNat)), (4, q_i r), (0, q_r Γ 20), (1, q_i p), (2, q_i x), (3, q_i sum)]) dX7_layRows_78 rfl (by decide) rfl ?_
    have lb := s_lim_b (φ := φ) (r := r) (h := h)
    have plr := (s_pt_b ok (r := r) rb.1 (by omega)).2.1
    have tpb := s_tp_b (φ := φ) (r := r)
    have sub := s_sun_b h0 h1
    have sdb := s_sh_sd ok (tl := (s_dg (φ 0) x)) (fun r => s_dg_b) rb.1 (show r < 6 by omega) h0 h1 p.toNat (T := S 23) (fun q q0 q1 => by have := HT.1 q q0 (by omega); omega)
    have p5r := s_p5_b (k := φ 0 - 1 - r) (by omega) (by omega)
    refine q_iconst (pc' := 81) dX7_layRows_80 rfl ?_
    refine q_istore (pc' := 83) (L' := [(10, q_i 0), (9, q_i (s_sun h)), (8, q_i (s_pt φ (r) 1)), (7, q_i (s_lim φ r h)), (6, q_i (s_p5 (φ 0 - 1 - r).toNat)), (5, q_i (s_sd φ (s_dg (φ 0) x) (S 23) r h p.toNat)), (4, q_i r), (0, q_r Γ 20), (1, q_i p), (2, q_i x), (3, q_i sum)]) dX7_layRows_81 rfl (by decide) rfl ?_
    have qlp_83 : ∀ (qn_83 : Nat) (S3 : q_S) (t : Int), (0 ≤ t) → (t ≤ s_tp φ r + 1) → (s_layQ φ h S S3 p (fun i => s_rch (φ 0) (S 23) (s_tp φ) p x i ∧ s_dg (φ 0) i (S 23 p) < t)) → ((5 - t).toNat) = qn_83 → q_Go Γ mX7_layRows (n + 3) 0 0 83 [(0, q_r Γ 20), (1, q_i p), (2, q_i x), (3, q_i sum), (4, q_i r), (5, q_i (s_sd φ (s_dg (φ 0) x) (S 23) r h p.toNat)), (6, q_i (s_p5 (φ 0 - 1 - r).toNat)), (7, q_i (s_lim φ r h)), (8, q_i (s_pt φ r 1)), (9, q_i (s_sun h)), (10, q_i t)] [] (KC, S3) (fun v9 w9 => v9 = none ∧ ∃ S2, w9 = (KC, S2) ∧ s_layQ φ h S S2 p (fun i => s_rch (φ 0) (S 23) (s_tp φ) p x i)) := by
      intro qn_83
      induction qn_83 using Nat.strongRecOn with
      | ind qn_83 qih_83 =>
        intro S3 t qa_83_0 qa_83_1 qa_83_2 qhn_83
        subst qhn_83
        refine q_iload (pc' := 85) 10 dX7_layRows_83 rfl rfl ?_
        refine q_aloadn (pc' := 86) 0 dX7_layRows_85 rfl rfl ?_
        refine p_getR (pc' := 89) (f := 22) dX7_layRows_86 rfl fX7_19 kc20 rfl ?_
        refine q_iload (pc' := 91) 4 dX7_layRows_89 rfl rfl ?_
        refine p_iald (pc' := 92) dX7_layRows_91 rfl kc22 (by first | assumption | omega) (by first | assumption | omega) (by decide) (fun qy_91 eqy_91 rqy_91 => ?_)
        have e91 : qy_91 = s_tp φ r := by rw [eqy_91, qa_83_2.1 22 (by decide) (by decide)]; exact Htp r rb.1 rb.2
        rw [e91]
        refine q_icmp_gt (tgt := 154) (pc' := 95) dX7_layRows_92 rfl rfl (by first | assumption | omega) (by first | assumption | omega) (fun qc_92 => ?_) (fun qc_92 => ?_)
        · first | exact q_vret dX7_layRows_154 rfl ⟨rfl, _, rfl, s_lay_e ok H (by omega)⟩ | exact q_vret dX7_layRows_154 rfl ⟨rfl, _, rfl, s_lay_x (by omega) (by rw [← hr]; omega) qa_83_2⟩
        · have htt : t ≤ s_tp φ r := by omega
          refine q_iload (pc' := 97) 8 dX7_layRows_95 rfl rfl ?_
          refine q_iload (pc' := 99) 10 dX7_layRows_97 rfl rfl ?_
          refine q_iload (pc' := 101) 7 dX7_layRows_99 rfl rfl ?_
          refine p_min (pc' := 104) dX7_layRows_101 rfl wX7_90 (by first | exact Nat.le_of_ble_eq_true rfl | omega) (by first | exact Nat.le_of_ble_eq_true rfl | omega) (by first | assumption | omega) (by first | assumption | omega) (fun qy_101 eqy_101 => ?_)
          rw [show qy_101 = s_ti φ r t h by rw [eqy_101]; exact (s_ti_lim ok rb.1 (by omega) (by omega) (by omega) h0 h1).symm]
          have tib := s_ti_b (φ := φ) (r := r) (h := h) (own := t) (by omega)
          have mb := q_mulb plr.1 plr.2 tib.1 (show s_ti φ r t h ≤ 4 by omega)
          have lyd := s_lay rw0.2 rb.1 rb.2 (show 0 ≤ t by omega) (show t ≤ 4 by omega) hx.1 hx.2 (show s_dg (φ 0) x r = 0 by rw [hr]; exact hz p (Int.le_refl _) (by omega))
          refine q_imul (pc' := 105) dX7_layRows_104 rfl ?_
          refine q_istore (pc' := 107) (L' := [(11, q_i ((s_pt φ r 1) * (s_ti φ r t h))), (0, q_r Γ 20), (1, q_i p), (2, q_i x), (3, q_i sum), (4, q_i r), (5, q_i (s_sd φ (s_dg (φ 0) x) (S 23) r h p.toNat)), (6, q_i (s_p5 (φ 0 - 1 - r).toNat)), (7, q_i (s_lim φ r h)), (8, q_i (s_pt φ r 1)), (9, q_i (s_sun h)), (10, q_i t)]) dX7_layRows_105 rfl (by decide) rfl ?_
          refine q_iconst (pc' := 108) dX7_layRows_107 rfl ?_
          refine q_iload (pc' := 110) 0 dX7_layRows_108 rfl rfl ?_
          refine q_iload (pc' := 112) 6 dX7_layRows_110 rfl rfl ?_
          refine q_isub (pc' := 113) dX7_layRows_112 rfl ?_
          refine p_max (pc' := 116) dX7_layRows_113 rfl wX7_74 (by first | exact Nat.le_of_ble_eq_true rfl | omega) (by first | exact Nat.le_of_ble_eq_true rfl | omega) (by first | assumption | omega) (by first | assumption | omega) (fun qy_113 eqy_113 => ?_)
          rw [eqy_113]
          refine q_iload (pc' := 118) 10 dX7_layRows_116 rfl rfl ?_
          refine q_imul (pc' := 119) dX7_layRows_118 rfl ?_
          have ega : max 0 (s_pt φ r 1 * s_ti φ r t h - s_sd φ (s_dg (φ 0) x) (S 23) r h p.toNat) * s_sun h = s_ga φ (s_dg (φ 0) (x + t * s_p5 (φ 0 - 1 - r).toNat)) (S 23) h p := by unfold s_ga; rw [← hr, lyd.2.1, s_sd_cg (tl := (s_dg (φ 0) x)) (tl2 := s_dg (φ 0) (x + t * s_p5 (φ 0 - 1 - r).toNat)) p.toNat (fun j j0 j1 => by have bj := HT.1 j j0 (by omega); exact lyd.2.2 _ bj.1 bj.2 (fun e => by rw [hr] at e; have := HT.2.1 j p j0 (by omega) (by omega); rw [e] at this; omega))]
          refine p_eq ega ?_
          refine q_istore (pc' := 121) (L' := [(12, q_i (s_ga φ (s_dg (φ 0) (x + t * s_p5 (φ 0 - 1 - r).toNat)) (S 23) h p)), (11, q_i ((s_pt φ r 1) * (s_ti φ r t h))), (0, q_r Γ 20), (1, q_i p), (2, q_i x), (3, q_i sum), (4, q_i r), (5, q_i (s_sd φ (s_dg (φ 0) x) (S 23) r h p.toNat)), (6, q_i (s_p5 (φ 0 - 1 - r).toNat)), (7, q_i (s_lim φ r h)), (8, q_i (s_pt φ r 1)), (9, q_i (s_sun h)), (10, q_i t)]) dX7_layRows_119 rfl (by decide) rfl ?_
          refine q_aloadn (pc' := 122) 2 dX7_layRows_121 rfl rfl ?_
          refine p_getR (pc' := 125) (f := 24) dX7_layRows_122 rfl fX7_25 kc20 rfl ?_
          refine q_iload (pc' := 127) 6 dX7_layRows_125 rfl rfl ?_
          refine q_iload (pc' := 129) 1 dX7_layRows_127 rfl rfl ?_
          refine p_iast (pc' := 130) dX7_layRows_129 rfl kc24 (by first | assumption | omega) (by first | assumption | omega) (by decide) (by first | assumption | omega) ?_
          refine q_aloadn (pc' := 131) 2 dX7_layRows_130 rfl rfl ?_
          refine q_iloadn (pc' := 132) 3 dX7_layRows_131 rfl rfl ?_
          refine q_iconst (pc' := 133) dX7_layRows_132 rfl ?_
          refine q_iadd (pc' := 134) dX7_layRows_133 rfl ?_
          refine q_iloadn (pc' := 135) 4 dX7_layRows_134 rfl rfl ?_
          refine q_iload (pc' := 137) 12 dX7_layRows_135 rfl rfl ?_
          refine q_iload (pc' := 139) 8 dX7_layRows_137 rfl rfl ?_
          refine q_imul (pc' := 140) dX7_layRows_139 rfl ?_
          refine q_iadd (pc' := 141) dX7_layRows_140 rfl ?_
          refine q_iloadn (pc' := 142) 5 dX7_layRows_141 rfl rfl ?_
          refine q_iload (pc' := 144) 0 dX7_layRows_142 rfl rfl ?_
          refine q_iadd (pc' := 145) dX7_layRows_144 rfl ?_
          refine q_callSQ (pc' := 148) dX7_layRows_145 rfl lX7_60 iX7_layRows (ih (n - 1) (by omega) (q_up S3 24 r (s_pt φ r 1 * s_ti φ r t h)) (p + 1) (x + t * s_p5 (φ 0 - 1 - r).toNat) (sum + s_ga φ (s_dg (φ 0) (x + t * s_p5 (φ 0 - 1 - r).toNat)) (S 23) h p) (by rw [hr]; rw [hr] at htt; exact s_lay_n ok H (by omega) (by omega) htt qa_83_2) (by omega)) rfl rfl (by first | exact Nat.le_of_ble_eq_true rfl | omega) (by first | exact Nat.le_of_ble_eq_true rfl | omega) (by first | exact Nat.le_of_ble_eq_true rfl | omega) (fun vq wq hq => ?_)
          obtain ⟨rfl, qS145, rfl, qL145⟩ := hq
          show q_Go Γ mX7_layRows (n + 3) 0 0 148 [(12, q_i (s_ga φ (s_dg (φ 0) (x + t * s_p5 (φ 0 - 1 - r).toNat)) (S 23) h p)), (11, q_i ((s_pt φ r 1) * (s_ti φ r t h))), (0, q_r Γ 20), (1, q_i p), (2, q_i x), (3, q_i sum), (4, q_i r), (5, q_i (s_sd φ (s_dg (φ 0) x) (S 23) r h p.toNat)), (6, q_i (s_p5 (φ 0 - 1 - r).toNat)), (7, q_i (s_lim φ r h)), (8, q_i (s_pt φ r 1)), (9, q_i (s_sun h)), (10, q_i t)] [] (KC, qS145) (fun v9 w9 => v9 = none ∧ ∃ S2, w9 = (KC, S2) ∧ s_layQ φ h S S2 p (fun i => s_rch (φ 0) (S 23) (s_tp φ) p x i))
          refine q_iinc (pc' := 151) 12 (L' := [(10, q_i (t + 1)), (12, q_i (s_ga φ (s_dg (φ 0) (x + t * s_p5 (φ 0 - 1 - r).toNat)) (S 23) h p)), (11, q_i ((s_pt φ r 1) * (s_ti φ r t h))), (0, q_r Γ 20), (1, q_i p), (2, q_i x), (3, q_i sum), (4, q_i r), (5, q_i (s_sd φ (s_dg (φ 0) x) (S 23) r h p.toNat)), (6, q_i (s_p5 (φ 0 - 1 - r).toNat)), (7, q_i (s_lim φ r h)), (8, q_i (s_pt φ r 1)), (9, q_i (s_sun h))]) dX7_layRows_148 rfl rfl (by decide) rfl ?_
          refine q_goto (pc' := 83) dX7_layRows_151 rfl ?_
          refine p_sub [3, 4, 5, 6, 7, 8, 9, 10, 11, 12, 0] rfl ?_
          exact qih_83 _ (by omega) _ _ (by first | assumption | omega) (by first | assumption | omega) (by rw [hr] at qL145; exact s_lay_b ok H (by omega) (by omega) (by rw [← hr]; omega) qa_83_2 qL145) rfl
    refine p_sub [7, 8, 9, 10, 6, 5, 4, 3, 2, 1, 0] rfl ?_
    exact qlp_83 _ _ _ (by first | assumption | omega) (by first | assumption | omega) (by exact s_lay_0) rfl
  · refine q_aloadn (pc' := 12) 0 dX7_layRows_11 rfl rfl ?_
    refine p_getR (pc' := 15) (f := 21) dX7_layRows_12 rfl fX7_9 kc20 rfl ?_
    refine q_iloadn (pc' := 16) 2 dX7_layRows_15 rfl rfl ?_
    refine q_dup2 (pc' := 17) dX7_layRows_16 rfl rfl rfl ?_
    refine p_iald (pc' := 18) dX7_layRows_17 rfl kc21 (by first | assumption | omega) (by first | assumption | omega) (by decide) (fun qy_17 eqy_17 rqy_17 => ?_)
    have sxb := hb x hx.1 hx.2 ⟨fun q _ _ => rfl, fun q q0 q1 => by omega⟩
    rw [eqy_17]
    refine q_iloadn (pc' := 19) 3 dX7_layRows_18 rfl rfl ?_
    refine q_iadd (pc' := 20) dX7_layRows_19 rfl ?_
    refine p_iast (pc' := 21) dX7_layRows_20 rfl kc21 (by first | assumption | omega | (exact ⟨by omega, by omega⟩)) (by first | assumption | omega | (exact ⟨by omega, by omega⟩)) (by decide) (by first | assumption | omega | (exact ⟨by omega, by omega⟩)) ?_
    first | exact q_vret dX7_layRows_21 rfl ⟨rfl, _, rfl, s_lay_e ok H (by omega)⟩ | exact q_vret dX7_layRows_21 rfl ⟨rfl, _, rfl, s_lay_x (by omega) (by rw [← hr]; omega) qa_83_2⟩
