set_option maxRecDepth 20000 in
set_option maxHeartbeats 4000000 in
theorem c_X2_yieldOfDay {Γ : q_G} {S : q_S} {φ : Int → Int} {r : Int} (FF : s_F S 1 φ) (ok : s_ok φ) (r0 : 0 ≤ r) (r1 : r < φ 0) : q_Sp Γ mX2_yieldOfDay 5 0 0 [q_r Γ 14, q_i r] (KC, S) (fun v w => v = some (q_i (q_sum (s_y φ r) 10)) ∧ ∃ S2, w = (KC, S2) ∧ s_offL S S2) := by
  show q_Go Γ mX2_yieldOfDay 5 0 0 0 [(0, q_r Γ 14), (1, q_i r)] [] (KC, S) (fun v w => v = some (q_i (q_sum (s_y φ r) 10)) ∧ ∃ S2, w = (KC, S2) ∧ s_offL S S2)
  have rw0 := s_rows_b ok
  refine q_iconst (pc' := 1) dX2_yieldOfDay_0 rfl ?_
  refine q_istoren (pc' := 2) (L' := [(2, q_i 0), (0, q_r Γ 14), (1, q_i r)]) dX2_yieldOfDay_1 rfl rfl (by decide) rfl ?_
  refine q_iconst (pc' := 3) dX2_yieldOfDay_2 rfl ?_
  refine q_istoren (pc' := 4) (L' := [(3, q_i 0), (2, q_i 0), (0, q_r Γ 14), (1, q_i r)]) dX2_yieldOfDay_3 rfl rfl (by decide) rfl ?_
  have qlp_4 : ∀ (qn_4 : Nat) (S2 : q_S) (sum k : Int), (0 ≤ k) → (k ≤ 10) → (sum = q_sum (s_y φ r) k.toNat) → (s_offL S S2) → ((10 - k).toNat) = qn_4 → q_Go Γ mX2_yieldOfDay 5 0 0 4 [(0, q_r Γ 14), (1, q_i r), (2, q_i sum), (3, q_i k)] [] (KC, S2) (fun v w => v = some (q_i (q_sum (s_y φ r) 10)) ∧ ∃ S2, w = (KC, S2) ∧ s_offL S S2) := by
    intro qn_4
    induction qn_4 using Nat.strongRecOn with
    | ind qn_4 qih_4 =>
      intro S2 sum k qa_4_0 qa_4_1 qa_4_2 qa_4_3 qhn_4
      subst qhn_4
      have FF2 : s_F S2 1 φ := s_F_L FF qa_4_3
      refine q_iloadn (pc' := 5) 3 dX2_yieldOfDay_4 rfl rfl ?_
      refine q_bipush (pc' := 7) dX2_yieldOfDay_5 rfl rfl ?_
      refine q_icmp_ge (tgt := 29) (pc' := 10) dX2_yieldOfDay_7 rfl rfl (by first | assumption | omega) (by decide) (fun qc_7 => ?_) (fun qc_7 => ?_)
      · refine q_iloadn (pc' := 30) 2 dX2_yieldOfDay_29 rfl rfl ?_
        exact q_iret dX2_yieldOfDay_30 rfl rfl ⟨congrArg (fun z => some (q_i z)) (by rw [qa_4_2, show k = 10 by omega]; rfl), _, rfl, qa_4_3⟩
      · refine q_aloadn (pc' := 11) 0 dX2_yieldOfDay_10 rfl rfl ?_
        refine q_iloadn (pc' := 12) 3 dX2_yieldOfDay_11 rfl rfl ?_
        refine q_callVQ (pc' := 15) dX2_yieldOfDay_12 rfl lX2_107 iX2_look kc14 rfl (c_X2_look (by first | assumption | omega) (by first | assumption | omega) (by first | assumption | omega) (by first | assumption | omega)) rfl rfl (Nat.le_of_ble_eq_true rfl) (Nat.le_of_ble_eq_true rfl) (Nat.le_of_ble_eq_true rfl) (fun vq wq hq => ?_)
        obtain ⟨rfl, qS12, rfl, qo12, qk12⟩ := hq
        have ql12 := s_offK_L qo12
        have qF12 : s_F qS12 1 φ := s_F_K (by assumption) qo12
        have qh12 := qk12.1
        show q_Go Γ mX2_yieldOfDay 5 0 0 15 [(0, q_r Γ 14), (1, q_i r), (2, q_i sum), (3, q_i k)] [] (KC, qS12) (fun v w => v = some (q_i (q_sum (s_y φ r) 10)) ∧ ∃ S2, w = (KC, S2) ∧ s_offL S S2)
        refine q_iloadn (pc' := 16) 2 dX2_yieldOfDay_15 rfl rfl ?_
        refine q_aloadn (pc' := 17) 0 dX2_yieldOfDay_16 rfl rfl ?_
        refine q_iloadn (pc' := 18) 1 dX2_yieldOfDay_17 rfl rfl ?_
        refine q_callVI (pc' := 21) dX2_yieldOfDay_18 rfl lX2_111 iX2_yieldNow kc14 rfl (c_X2_yieldNow (by first | assumption | omega) (by first | assumption | omega) (by first | assumption | omega) (by first | assumption | omega) (by first | assumption | omega) (by first | assumption | omega) (by first | assumption | omega)) rfl rfl (Nat.le_of_ble_eq_true rfl) (Nat.le_of_ble_eq_true rfl) (Nat.le_of_ble_eq_true rfl) ?_
        refine q_iadd (pc' := 22) dX2_yieldOfDay_21 rfl ?_
        refine q_istoren (pc' := 23) (L' := [(2, q_i (sum + (s_y φ r k))), (0, q_r Γ 14), (1, q_i r), (3, q_i k)]) dX2_yieldOfDay_22 rfl rfl (by decide) rfl ?_
        refine q_iinc (pc' := 26) 3 (L' := [(3, q_i (k + 1)), (2, q_i (sum + (s_y φ r k))), (0, q_r Γ 14), (1, q_i r)]) dX2_yieldOfDay_23 rfl rfl (by decide) rfl ?_
        refine q_goto (pc' := 4) dX2_yieldOfDay_26 rfl ?_
        refine p_sub [2, 3, 1, 0] rfl ?_
        exact qih_4 _ (by omega) _ _ _ (by first | assumption | omega) (by first | assumption | omega) (by rw [q_sum_s (by omega), ← qa_4_2]) (by exact s_offL_t qa_4_3 (by assumption)) rfl
  refine p_sub [2, 3, 1, 0] rfl ?_
  exact qlp_4 _ _ _ _ (by first | assumption | omega) (by first | assumption | omega) (by rfl) (by exact s_offL_r) rfl
set_option maxRecDepth 20000 in
set_option maxHeartbeats 4000000 in
theorem c_X2_unshadedYieldOfDay {Γ : q_G} {S : q_S} {φ : Int → Int} {r : Int} (FF : s_F S 1 φ) (ok : s_ok φ) (r0 : 0 ≤ r) (r1 : r < φ 0) : q_Sp Γ mX2_unshadedYieldOfDay 3 0 0 [q_r Γ 14, q_i r] (KC, S) (fun v w => v = some (q_i (q_sum (fun h => s_he φ r h * s_sun h + s_pt φ r 1) 10)) ∧ ∃ S2, w = (KC, S2) ∧ s_offL S S2) := by
  show q_Go Γ mX2_unshadedYieldOfDay 3 0 0 0 [(0, q_r Γ 14), (1, q_i r)] [] (KC, S) (fun v w => v = some (q_i (q_sum (fun h => s_he φ r h * s_sun h + s_pt φ r 1) 10)) ∧ ∃ S2, w = (KC, S2) ∧ s_offL S S2)
  have rw0 := s_rows_b ok
  refine q_iconst (pc' := 1) dX2_unshadedYieldOfDay_0 rfl ?_
  refine q_istoren (pc' := 2) (L' := [(2, q_i 0), (0, q_r Γ 14), (1, q_i r)]) dX2_unshadedYieldOfDay_1 rfl rfl (by decide) rfl ?_
  refine q_iconst (pc' := 3) dX2_unshadedYieldOfDay_2 rfl ?_
  refine q_istoren (pc' := 4) (L' := [(3, q_i 0), (2, q_i 0), (0, q_r Γ 14), (1, q_i r)]) dX2_unshadedYieldOfDay_3 rfl rfl (by decide) rfl ?_
  have qlp_4 : ∀ (qn_4 : Nat) (S2 : q_S) (sum k : Int), (0 ≤ k) → (k ≤ 10) → (sum = q_sum (fun h => s_he φ r h * s_sun h + s_pt φ r 1) k.toNat) → (s_offL S S2) → ((10 - k).toNat) = qn_4 → q_Go Γ mX2_unshadedYieldOfDay 3 0 0 4 [(0, q_r Γ 14), (1, q_i r), (2, q_i sum), (3, q_i k)] [] (KC, S2) (fun v w => v = some (q_i (q_sum (fun h => s_he φ r h * s_sun h + s_pt φ r 1) 10)) ∧ ∃ S2, w = (KC, S2) ∧ s_offL S S2) := by
    intro qn_4
    induction qn_4 using Nat.strongRecOn with
    | ind qn_4 qih_4 =>
      intro S2 sum k qa_4_0 qa_4_1 qa_4_2 qa_4_3 qhn_4
      subst qhn_4
      have FF2 : s_F S2 1 φ := s_F_L FF qa_4_3
      refine q_iloadn (pc' := 5) 3 dX2_unshadedYieldOfDay_4 rfl rfl ?_
      refine q_bipush (pc' := 7) dX2_unshadedYieldOfDay_5 rfl rfl ?_
      refine q_icmp_ge (tgt := 29) (pc' := 10) dX2_unshadedYieldOfDay_7 rfl rfl (by first | assumption | omega) (by decide) (fun qc_7 => ?_) (fun qc_7 => ?_)
      · refine q_iloadn (pc' := 30) 2 dX2_unshadedYieldOfDay_29 rfl rfl ?_
        exact q_iret dX2_unshadedYieldOfDay_30 rfl rfl ⟨congrArg (fun z => some (q_i z)) (by rw [qa_4_2, show k = 10 by omega]; rfl), _, rfl, qa_4_3⟩
      · refine q_aloadn (pc' := 11) 0 dX2_unshadedYieldOfDay_10 rfl rfl ?_
        refine q_iloadn (pc' := 12) 3 dX2_unshadedYieldOfDay_11 rfl rfl ?_
        refine q_callVQ (pc' := 15) dX2_unshadedYieldOfDay_12 rfl lX2_107 iX2_look kc14 rfl (c_X2_look (by first | assumption | omega) (by first | assumption | omega) (by first | assumption | omega) (by first | assumption | omega)) rfl rfl (Nat.le_of_ble_eq_true rfl) (Nat.le_of_ble_eq_true rfl) (Nat.le_of_ble_eq_true rfl) (fun vq wq hq => ?_)
        obtain ⟨rfl, qS12, rfl, qo12, qk12⟩ := hq
        have ql12 := s_offK_L qo12
        have qF12 : s_F qS12 1 φ := s_F_K (by assumption) qo12
        have qh12 := qk12.1
        show q_Go Γ mX2_unshadedYieldOfDay 3 0 0 15 [(0, q_r Γ 14), (1, q_i r), (2, q_i sum), (3, q_i k)] [] (KC, qS12) (fun v w => v = some (q_i (q_sum (fun h => s_he φ r h * s_sun h + s_pt φ r 1) 10)) ∧ ∃ S2, w = (KC, S2) ∧ s_offL S S2)
        refine q_iloadn (pc' := 16) 2 dX2_unshadedYieldOfDay_15 rfl rfl ?_
        refine q_aloadn (pc' := 17) 0 dX2_unshadedYieldOfDay_16 rfl rfl ?_
        refine q_iloadn (pc' := 18) 1 dX2_unshadedYieldOfDay_17 rfl rfl ?_
        refine q_callVI (pc' := 21) dX2_unshadedYieldOfDay_18 rfl lX2_101 iX2_unshadedYield kc14 rfl (c_X2_unshadedYield (by first | assumption | omega) (by first | assumption | omega) (by first | assumption | omega) (by first | assumption | omega) (by first | assumption | omega) (by first | assumption | omega) (by first | assumption | omega)) rfl rfl (Nat.le_of_ble_eq_true rfl) (Nat.le_of_ble_eq_true rfl) (Nat.le_of_ble_eq_true rfl) ?_
        refine q_iadd (pc' := 22) dX2_unshadedYieldOfDay_21 rfl ?_
        refine q_istoren (pc' := 23) (L' := [(2, q_i (sum + (s_he φ r k * s_sun k + s_pt φ r 1))), (0, q_r Γ 14), (1, q_i r), (3, q_i k)]) dX2_unshadedYieldOfDay_22 rfl rfl (by decide) rfl ?_
        refine q_iinc (pc' := 26) 3 (L' := [(3, q_i (k + 1)), (2, q_i (sum + (s_he φ r k * s_sun k + s_pt φ r 1))), (0, q_r Γ 14), (1, q_i r)]) dX2_unshadedYieldOfDay_23 rfl rfl (by decide) rfl ?_
        refine q_goto (pc' := 4) dX2_unshadedYieldOfDay_26 rfl ?_
        refine p_sub [2, 3, 1, 0] rfl ?_
        exact qih_4 _ (by omega) _ _ _ (by first | assumption | omega) (by first | assumption | omega) (by rw [q_sum_s (by omega), ← qa_4_2]) (by exact s_offL_t qa_4_3 (by assumption)) rfl
  refine p_sub [2, 3, 1, 0] rfl ?_
  exact qlp_4 _ _ _ _ (by first | assumption | omega) (by first | assumption | omega) (by rfl) (by exact s_offL_r) rfl
set_option maxRecDepth 20000 in
set_option maxHeartbeats 4000000 in
theorem c_X2_hoursShaded {Γ : q_G} {S : q_S} {φ : Int → Int} {r : Int} (FF : s_F S 1 φ) (ok : s_ok φ) (r0 : 0 ≤ r) (r1 : r < φ 0) : q_Sp Γ mX2_hoursShaded 4 0 0 [q_r Γ 14, q_i r] (KC, S) (fun v w => v = some (q_i (q_sum (fun h => q_B (0 < s_shd φ r h)) 10)) ∧ ∃ S2, w = (KC, S2) ∧ s_offL S S2) := by
  show q_Go Γ mX2_hoursShaded 4 0 0 0 [(0, q_r Γ 14), (1, q_i r)] [] (KC, S) (fun v w => v = some (q_i (q_sum (fun h => q_B (0 < s_shd φ r h)) 10)) ∧ ∃ S2, w = (KC, S2) ∧ s_offL S S2)
  have rw0 := s_rows_b ok
  refine q_iconst (pc' := 1) dX2_hoursShaded_0 rfl ?_
  refine q_istoren (pc' := 2) (L' := [(2, q_i 0), (0, q_r Γ 14), (1, q_i r)]) dX2_hoursShaded_1 rfl rfl (by decide) rfl ?_
  refine q_iconst (pc' := 3) dX2_hoursShaded_2 rfl ?_
  refine q_istoren (pc' := 4) (L' := [(3, q_i 0), (2, q_i 0), (0, q_r Γ 14), (1, q_i r)]) dX2_hoursShaded_3 rfl rfl (by decide) rfl ?_
  have qlp_4 : ∀ (qn_4 : Nat) (S2 : q_S) (sum k : Int), (0 ≤ k) → (k ≤ 10) → (sum = q_sum (fun h => q_B (0 < s_shd φ r h)) k.toNat) → (s_offL S S2) → ((10 - k).toNat) = qn_4 → q_Go Γ mX2_hoursShaded 4 0 0 4 [(0, q_r Γ 14), (1, q_i r), (2, q_i sum), (3, q_i k)] [] (KC, S2) (fun v w => v = some (q_i (q_sum (fun h => q_B (0 < s_shd φ r h)) 10)) ∧ ∃ S2, w = (KC, S2) ∧ s_offL S S2) := by
    intro qn_4
    induction qn_4 using Nat.strongRecOn with
    | ind qn_4 qih_4 =>
      intro S2 sum k qa_4_0 qa_4_1 qa_4_2 qa_4_3 qhn_4
      subst qhn_4
      have FF2 : s_F S2 1 φ := s_F_L FF qa_4_3
      refine q_iloadn (pc' := 5) 3 dX2_hoursShaded_4 rfl rfl ?_
      refine q_bipush (pc' := 7) dX2_hoursShaded_5 rfl rfl ?_
      refine q_icmp_ge (tgt := 32) (pc' := 10) dX2_hoursShaded_7 rfl rfl (by first | assumption | omega) (by decide) (fun qc_7 => ?_) (fun qc_7 => ?_)
      · refine q_iloadn (pc' := 33) 2 dX2_hoursShaded_32 rfl rfl ?_
        exact q_iret dX2_hoursShaded_33 rfl rfl ⟨congrArg (fun z => some (q_i z)) (by rw [qa_4_2, show k = 10 by omega]; rfl), _, rfl, qa_4_3⟩
      · refine q_aloadn (pc' := 11) 0 dX2_hoursShaded_10 rfl rfl ?_
        refine q_iloadn (pc' := 12) 3 dX2_hoursShaded_11 rfl rfl ?_
        refine q_callVQ (pc' := 15) dX2_hoursShaded_12 rfl lX2_107 iX2_look kc14 rfl (c_X2_look (by first | assumption | omega) (by first | assumption | omega) (by first | assumption | omega) (by first | assumption | omega)) rfl rfl (Nat.le_of_ble_eq_true rfl) (Nat.le_of_ble_eq_true rfl) (Nat.le_of_ble_eq_true rfl) (fun vq wq hq => ?_)
        obtain ⟨rfl, qS12, rfl, qo12, qk12⟩ := hq
        have ql12 := s_offK_L qo12
        have qF12 : s_F qS12 1 φ := s_F_K (by assumption) qo12
        have qh12 := qk12.1
        show q_Go Γ mX2_hoursShaded 4 0 0 15 [(0, q_r Γ 14), (1, q_i r), (2, q_i sum), (3, q_i k)] [] (KC, qS12) (fun v w => v = some (q_i (q_sum (fun h => q_B (0 < s_shd φ r h)) 10)) ∧ ∃ S2, w = (KC, S2) ∧ s_offL S S2)
        refine q_aloadn (pc' := 16) 0 dX2_hoursShaded_15 rfl rfl ?_
        refine q_iloadn (pc' := 17) 1 dX2_hoursShaded_16 rfl rfl ?_
        refine q_callVI (pc' := 20) dX2_hoursShaded_17 rfl lX2_104 iX2_shade kc14 rfl (c_X2_shade (by first | assumption | omega) (by first | assumption | omega) (by first | assumption | omega) (by first | assumption | omega) (by first | assumption | omega) (by first | assumption | omega) (by first | assumption | omega)) rfl rfl (Nat.le_of_ble_eq_true rfl) (Nat.le_of_ble_eq_true rfl) (Nat.le_of_ble_eq_true rfl) ?_
        have sb := s_shd_b ok (r := r) (h := k) (by omega) (by omega) (by omega) (by omega)
        have hb := s_he_b ok k (r := r) (by omega) (by omega)
        refine q_if_le (tgt := 26) (pc' := 23) dX2_hoursShaded_20 rfl rfl (by first | assumption | omega) (fun qc_20 => ?_) (fun qc_20 => ?_)
        · refine q_iinc (pc' := 29) 3 (L' := [(3, q_i (k + 1)), (0, q_r Γ 14), (1, q_i r), (2, q_i sum)]) dX2_hoursShaded_26 rfl rfl (by decide) rfl ?_
          refine q_goto (pc' := 4) dX2_hoursShaded_29 rfl ?_
          refine p_sub [1, 2, 3, 0] rfl ?_
          exact qih_4 _ (by omega) _ _ _ (by first | assumption | omega) (by first | assumption | omega) (by rw [q_sum_s (by omega), ← qa_4_2]; first | exact congrArg (sum + ·) (q_B_1 (by omega)) | (rw [← q_B_0 (by omega)]; omega)) (by exact s_offL_t qa_4_3 (by assumption)) rfl
        · refine q_iinc (pc' := 26) 2 (L' := [(2, q_i (sum + 1)), (0, q_r Γ 14), (1, q_i r), (3, q_i k)]) dX2_hoursShaded_23 rfl rfl (by decide) rfl ?_
          refine q_iinc (pc' := 29) 3 (L' := [(3, q_i (k + 1)), (2, q_i (sum + 1)), (0, q_r Γ 14), (1, q_i r)]) dX2_hoursShaded_26 rfl rfl (by decide) rfl ?_
          refine q_goto (pc' := 4) dX2_hoursShaded_29 rfl ?_
          refine p_sub [2, 3, 1, 0] rfl ?_
          exact qih_4 _ (by omega) _ _ _ (by first | assumption | omega) (by first | assumption | omega) (by rw [q_sum_s (by omega), ← qa_4_2]; first | exact congrArg (sum + ·) (q_B_1 (by omega)) | (rw [← q_B_0 (by omega)]; omega)) (by exact s_offL_t qa_4_3 (by assumption)) rfl
  refine p_sub [2, 3, 1, 0] rfl ?_
  exact qlp_4 _ _ _ _ (by first | assumption | omega) (by first | assumption | omega) (by rfl) (by exact s_offL_r) rfl
set_option maxRecDepth 20000 in
set_option maxHeartbeats 4000000 in
theorem c_X2_hoursLowered {Γ : q_G} {S : q_S} {φ : Int → Int} {r : Int} (FF : s_F S 1 φ) (ok : s_ok φ) (r0 : 0 ≤ r) (r1 : r < φ 0) : q_Sp Γ mX2_hoursLowered 3 0 0 [q_r Γ 14, q_i r] (KC, S) (fun v w => v = some (q_i (q_sum (fun h => q_B (¬ s_flat φ h ∧ s_ti φ r (s_pt φ r 2) h < s_pt φ r 2)) 10)) ∧ ∃ S2, w = (KC, S2) ∧ s_offL S S2) := by
  show q_Go Γ mX2_hoursLowered 3 0 0 0 [(0, q_r Γ 14), (1, q_i r)] [] (KC, S) (fun v w => v = some (q_i (q_sum (fun h => q_B (¬ s_flat φ h ∧ s_ti φ r (s_pt φ r 2) h < s_pt φ r 2)) 10)) ∧ ∃ S2, w = (KC, S2) ∧ s_offL S S2)
  have rw0 := s_rows_b ok
  refine q_iconst (pc' := 1) dX2_hoursLowered_0 rfl ?_
  refine q_istoren (pc' := 2) (L' := [(2, q_i 0), (0, q_r Γ 14), (1, q_i r)]) dX2_hoursLowered_1 rfl rfl (by decide) rfl ?_
  refine q_iconst (pc' := 3) dX2_hoursLowered_2 rfl ?_
  refine q_istoren (pc' := 4) (L' := [(3, q_i 0), (2, q_i 0), (0, q_r Γ 14), (1, q_i r)]) dX2_hoursLowered_3 rfl rfl (by decide) rfl ?_
  have qlp_4 : ∀ (qn_4 : Nat) (S2 : q_S) (sum k : Int), (0 ≤ k) → (k ≤ 10) → (sum = q_sum (fun h => q_B (¬ s_flat φ h ∧ s_ti φ r (s_pt φ r 2) h < s_pt φ r 2)) k.toNat) → (s_offL S S2) → ((10 - k).toNat) = qn_4 → q_Go Γ mX2_hoursLowered 3 0 0 4 [(0, q_r Γ 14), (1, q_i r), (2, q_i sum), (3, q_i k)] [] (KC, S2) (fun v w => v = some (q_i (q_sum (fun h => q_B (¬ s_flat φ h ∧ s_ti φ r (s_pt φ r 2) h < s_pt φ r 2)) 10)) ∧ ∃ S2, w = (KC, S2) ∧ s_offL S S2) := by
    intro qn_4
    induction qn_4 using Nat.strongRecOn with
    | ind qn_4 qih_4 =>
      intro S2 sum k qa_4_0 qa_4_1 qa_4_2 qa_4_3 qhn_4
      subst qhn_4
      have FF2 : s_F S2 1 φ := s_F_L FF qa_4_3
      refine q_iloadn (pc' := 5) 3 dX2_hoursLowered_4 rfl rfl ?_
      refine q_bipush (pc' := 7) dX2_hoursLowered_5 rfl rfl ?_
      refine q_icmp_ge (tgt := 49) (pc' := 10) dX2_hoursLowered_7 rfl rfl (by first | assumption | omega) (by decide) (fun qc_7 => ?_) (fun qc_7 => ?_)
      · refine q_iloadn (pc' := 50) 2 dX2_hoursLowered_49 rfl rfl ?_
        exact q_iret dX2_hoursLowered_50 rfl rfl ⟨congrArg (fun z => some (q_i z)) (by rw [qa_4_2, show k = 10 by omega]; rfl), _, rfl, qa_4_3⟩
      · refine q_aloadn (pc' := 11) 0 dX2_hoursLowered_10 rfl rfl ?_
        refine q_iloadn (pc' := 12) 3 dX2_hoursLowered_11 rfl rfl ?_
        refine q_callVQ (pc' := 15) dX2_hoursLowered_12 rfl lX2_107 iX2_look kc14 rfl (c_X2_look (by first | assumption | omega) (by first | assumption | omega) (by first | assumption | omega) (by first | assumption | omega)) rfl rfl (Nat.le_of_ble_eq_true rfl) (Nat.le_of_ble_eq_true rfl) (Nat.le_of_ble_eq_true rfl) (fun vq wq hq => ?_)
        obtain ⟨rfl, qS12, rfl, qo12, qk12⟩ := hq
        have ql12 := s_offK_L qo12
        have qF12 : s_F qS12 1 φ := s_F_K (by assumption) qo12
        have qh12 := qk12.1
        show q_Go Γ mX2_hoursLowered 3 0 0 15 [(0, q_r Γ 14), (1, q_i r), (2, q_i sum), (3, q_i k)] [] (KC, qS12) (fun v w => v = some (q_i (q_sum (fun h => q_B (¬ s_flat φ h ∧ s_ti φ r (s_pt φ r 2) h < s_pt φ r 2)) 10)) ∧ ∃ S2, w = (KC, S2) ∧ s_offL S S2)
        have pr := s_pt_b ok (r := r) (by omega) (by omega)
        have et := s_ti_lim ok (r := r) (own := s_pt φ r 2) (h := k) (by omega) (by omega) pr.2.2.1 pr.2.2.2 (by omega) (by omega)
        refine q_aloadn (pc' := 16) 0 dX2_hoursLowered_15 rfl rfl ?_
        refine q_callVI (pc' := 19) dX2_hoursLowered_16 rfl lX2_69 iX2_isFlat kc14 rfl (c_X2_isFlat (by first | assumption | omega) (by first | assumption | omega) (by first | assumption | omega) (by first | assumption | omega) (by first | assumption | omega)) rfl rfl (Nat.le_of_ble_eq_true rfl) (Nat.le_of_ble_eq_true rfl) (Nat.le_of_ble_eq_true rfl) ?_
        refine q_if_ne_B (tgt := 43) (pc' := 22) dX2_hoursLowered_19 rfl rfl (fun qc_19 => ?_) (fun qc_19 => ?_)
        · refine q_iinc (pc' := 46) 3 (L' := [(3, q_i (k + 1)), (0, q_r Γ 14), (1, q_i r), (2, q_i sum)]) dX2_hoursLowered_43 rfl rfl (by decide) rfl ?_
          refine q_goto (pc' := 4) dX2_hoursLowered_46 rfl ?_
          refine p_sub [1, 2, 3, 0] rfl ?_
          exact qih_4 _ (by omega) _ _ _ (by first | assumption | omega) (by first | assumption | omega) (by rw [q_sum_s (by omega), ← qa_4_2]; first | exact congrArg (sum + ·) (q_B_1 ⟨qc_19, by rw [et]; omega⟩) | (rw [← q_B_0 (fun q => q.1 (by first | exact qc_19 | omega))]; omega) | (rw [← q_B_0 (fun q => by have q2 := q.2; rw [et] at q2; omega)]; omega)) (by exact s_offL_t qa_4_3 (by assumption)) rfl
        · refine q_aloadn (pc' := 23) 0 dX2_hoursLowered_22 rfl rfl ?_
          refine p_getR (pc' := 26) (f := 16) dX2_hoursLowered_23 rfl fX2_19 kc14 rfl ?_
          refine q_iloadn (pc' := 27) 1 dX2_hoursLowered_26 rfl rfl ?_
          refine p_iald (pc' := 28) dX2_hoursLowered_27 rfl kc16 (by first | assumption | omega) (by first | assumption | omega) (by decide) (fun qy_27 eqy_27 rqy_27 => ?_)
          have el : qy_27 = s_lim φ r k := by rw [eqy_27]; exact (qk12.2.2 r (by omega) (by omega)).1
          have lb := s_lim_b (φ := φ) (r := r) (h := k)
          refine q_aloadn (pc' := 29) 0 dX2_hoursLowered_28 rfl rfl ?_
          refine p_getR (pc' := 32) (f := 1) dX2_hoursLowered_29 rfl fX2_28 kc14 rfl ?_
          refine p_getR (pc' := 35) (f := 4) dX2_hoursLowered_32 rfl fX2_85 kc1 rfl ?_
          refine q_iloadn (pc' := 36) 1 dX2_hoursLowered_35 rfl rfl ?_
          refine p_iald (pc' := 37) dX2_hoursLowered_36 rfl kc4 (by first | assumption | omega) (by first | assumption | omega) (by decide) (fun qy_36 eqy_36 rqy_36 => ?_)
          have vqy_36 : qy_36 = s_pt φ (r) 2 := eqy_36.trans (s_F_4 qF12 (by first | assumption | omega) (by first | assumption | omega))
          rw [vqy_36]
          refine q_icmp_ge (tgt := 43) (pc' := 40) dX2_hoursLowered_37 rfl rfl (by first | assumption | omega) (by first | assumption | omega) (fun qc_37 => ?_) (fun qc_37 => ?_)
          · refine q_iinc (pc' := 46) 3 (L' := [(3, q_i (k + 1)), (0, q_r Γ 14), (1, q_i r), (2, q_i sum)]) dX2_hoursLowered_43 rfl rfl (by decide) rfl ?_
            refine q_goto (pc' := 4) dX2_hoursLowered_46 rfl ?_
            refine p_sub [1, 2, 3, 0] rfl ?_
            exact qih_4 _ (by omega) _ _ _ (by first | assumption | omega) (by first | assumption | omega) (by rw [q_sum_s (by omega), ← qa_4_2]; first | exact congrArg (sum + ·) (q_B_1 ⟨qc_19, by rw [et]; omega⟩) | (rw [← q_B_0 (fun q => q.1 (by first | exact qc_19 | omega))]; omega) | (rw [← q_B_0 (fun q => by have q2 := q.2; rw [et] at q2; omega)]; omega)) (by exact s_offL_t qa_4_3 (by assumption)) rfl
          · refine q_iinc (pc' := 43) 2 (L' := [(2, q_i (sum + 1)), (0, q_r Γ 14), (1, q_i r), (3, q_i k)]) dX2_hoursLowered_40 rfl rfl (by decide) rfl ?_
            refine q_iinc (pc' := 46) 3 (L' := [(3, q_i (k + 1)), (2, q_i (sum + 1)), (0, q_r Γ 14), (1, q_i r)]) dX2_hoursLowered_43 rfl rfl (by decide) rfl ?_
            refine q_goto (pc' := 4) dX2_hoursLowered_46 rfl ?_
            refine p_sub [2, 3, 1, 0] rfl ?_
            exact qih_4 _ (by omega) _ _ _ (by first | assumption | omega) (by first | assumption | omega) (by rw [q_sum_s (by omega), ← qa_4_2]; first | exact congrArg (sum + ·) (q_B_1 ⟨qc_19, by rw [et]; omega⟩) | (rw [← q_B_0 (fun q => q.1 (by first | exact qc_19 | omega))]; omega) | (rw [← q_B_0 (fun q => by have q2 := q.2; rw [et] at q2; omega)]; omega)) (by exact s_offL_t qa_4_3 (by assumption)) rfl
  refine p_sub [2, 3, 1, 0] rfl ?_
  exact qlp_4 _ _ _ _ (by first | assumption | omega) (by first | assumption | omega) (by rfl) (by exact s_offL_r) rfl
set_option maxRecDepth 20000 in
set_option maxHeartbeats 4000000 in
theorem c_X2_yieldOfAll {Γ : q_G} {S : q_S} {φ : Int → Int}  (FF : s_F S 1 φ) (ok : s_ok φ) : q_Sp Γ mX2_yieldOfAll 5 0 0 [q_r Γ 14] (KC, S) (fun v w => v = some (q_i (s_all φ)) ∧ ∃ S2, w = (KC, S2) ∧ s_offL S S2) := by
  show q_Go Γ mX2_yieldOfAll 5 0 0 0 [(0, q_r Γ 14)] [] (KC, S) (fun v w => v = some (q_i (s_all φ)) ∧ ∃ S2, w = (KC, S2) ∧ s_offL S S2)
  have rw0 := s_rows_b ok
  refine q_iconst (pc' := 1) dX2_yieldOfAll_0 rfl ?_
  refine q_istoren (pc' := 2) (L' := [(1, q_i 0), (0, q_r Γ 14)]) dX2_yieldOfAll_1 rfl rfl (by decide) rfl ?_
  refine q_iconst (pc' := 3) dX2_yieldOfAll_2 rfl ?_
  refine q_istoren (pc' := 4) (L' := [(2, q_i 0), (1, q_i 0), (0, q_r Γ 14)]) dX2_yieldOfAll_3 rfl rfl (by decide) rfl ?_
  have qlp_4 : ∀ (qn_4 : Nat) (S2 : q_S) (sum k : Int), (0 ≤ k) → (k ≤ 10) → (sum = q_sum (fun h => q_sum (fun r => s_y φ r h) (φ 0).toNat) k.toNat) → (s_offL S S2) → ((10 - k).toNat) = qn_4 → q_Go Γ mX2_yieldOfAll 5 0 0 4 [(0, q_r Γ 14), (1, q_i sum), (2, q_i k)] [] (KC, S2) (fun v w => v = some (q_i (s_all φ)) ∧ ∃ S2, w = (KC, S2) ∧ s_offL S S2) := by
    intro qn_4
    induction qn_4 using Nat.strongRecOn with
    | ind qn_4 qih_4 =>
      intro S2 sum k qa_4_0 qa_4_1 qa_4_2 qa_4_3 qhn_4
      subst qhn_4
      have FF2 : s_F S2 1 φ := s_F_L FF qa_4_3
      refine q_iloadn (pc' := 5) 2 dX2_yieldOfAll_4 rfl rfl ?_
      refine q_bipush (pc' := 7) dX2_yieldOfAll_5 rfl rfl ?_
      refine q_icmp_ge (tgt := 48) (pc' := 10) dX2_yieldOfAll_7 rfl rfl (by first | assumption | omega) (by decide) (fun qc_7 => ?_) (fun qc_7 => ?_)
      · refine q_iloadn (pc' := 49) 1 dX2_yieldOfAll_48 rfl rfl ?_
        exact q_iret dX2_yieldOfAll_49 rfl rfl ⟨congrArg (fun z => some (q_i z)) (by rw [qa_4_2, show k = 10 by omega]; exact q_sum_swap 10 (φ 0).toNat), _, rfl, qa_4_3⟩
      · refine q_aloadn (pc' := 11) 0 dX2_yieldOfAll_10 rfl rfl ?_
        refine q_iloadn (pc' := 12) 2 dX2_yieldOfAll_11 rfl rfl ?_
        refine q_callVQ (pc' := 15) dX2_yieldOfAll_12 rfl lX2_107 iX2_look kc14 rfl (c_X2_look (by first | assumption | omega) (by first | assumption | omega) (by first | assumption | omega) (by first | assumption | omega)) rfl rfl (Nat.le_of_ble_eq_true rfl) (Nat.le_of_ble_eq_true rfl) (Nat.le_of_ble_eq_true rfl) (fun vq wq hq => ?_)
        obtain ⟨rfl, qS12, rfl, qo12, qk12⟩ := hq
        have ql12 := s_offK_L qo12
        have qF12 : s_F qS12 1 φ := s_F_K (by assumption) qo12
        have qh12 := qk12.1
        show q_Go Γ mX2_yieldOfAll 5 0 0 15 [(0, q_r Γ 14), (1, q_i sum), (2, q_i k)] [] (KC, qS12) (fun v w => v = some (q_i (s_all φ)) ∧ ∃ S2, w = (KC, S2) ∧ s_offL S S2)
        refine q_iconst (pc' := 16) dX2_yieldOfAll_15 rfl ?_
        refine q_istoren (pc' := 17) (L' := [(3, q_i 0), (0, q_r Γ 14), (1, q_i sum), (2, q_i k)]) dX2_yieldOfAll_16 rfl rfl (by decide) rfl ?_
        have qlp_17 : ∀ (qn_17 : Nat) (sum2 r : Int), (0 ≤ r) → (r ≤ φ 0) → (sum2 = sum + q_sum (fun r => s_y φ r k) r.toNat) → ((6 - r).toNat) = qn_17 → q_Go Γ mX2_yieldOfAll 5 0 0 17 [(0, q_r Γ 14), (1, q_i sum2), (2, q_i k), (3, q_i r)] [] (KC, qS12) (fun v w => v = some (q_i (s_all φ)) ∧ ∃ S2, w = (KC, S2) ∧ s_offL S S2) := by
          intro qn_17
          induction qn_17 using Nat.strongRecOn with
          | ind qn_17 qih_17 =>
            intro sum2 r qa_17_0 qa_17_1 qa_17_2 qhn_17
            subst qhn_17
            refine q_iloadn (pc' := 18) 3 dX2_yieldOfAll_17 rfl rfl ?_
            refine q_aloadn (pc' := 19) 0 dX2_yieldOfAll_18 rfl rfl ?_
            refine p_getR (pc' := 22) (f := 1) dX2_yieldOfAll_19 rfl fX2_28 kc14 rfl ?_
            refine p_getJ (pc' := 25) (kz := 0) dX2_yieldOfAll_22 rfl fX2_32 kc1 rfl rfl (fun qy_22 eqy_22 rqy_22 => ?_)
            have vqy_22 : qy_22 = φ 0 := eqy_22.trans (s_F_0 qF12)
            rw [vqy_22]
            refine q_icmp_ge (tgt := 42) (pc' := 28) dX2_yieldOfAll_25 rfl rfl (by first | assumption | omega) (by first | assumption | omega) (fun qc_25 => ?_) (fun qc_25 => ?_)
            · refine q_iinc (pc' := 45) 2 (L' := [(2, q_i (k + 1)), (0, q_r Γ 14), (1, q_i sum2), (3, q_i r)]) dX2_yieldOfAll_42 rfl rfl (by decide) rfl ?_
              refine q_goto (pc' := 4) dX2_yieldOfAll_45 rfl ?_
              refine p_sub [1, 2, 0] rfl ?_
              exact qih_4 _ (by omega) _ _ _ (by first | assumption | omega) (by first | assumption | omega) (by rw [q_sum_s (by omega), ← qa_4_2, qa_17_2, show r = φ 0 by omega]) (by exact s_offL_t qa_4_3 (by assumption)) rfl
            · refine q_iloadn (pc' := 29) 1 dX2_yieldOfAll_28 rfl rfl ?_
              refine q_aloadn (pc' := 30) 0 dX2_yieldOfAll_29 rfl rfl ?_
              refine q_iloadn (pc' := 31) 3 dX2_yieldOfAll_30 rfl rfl ?_
              refine q_callVI (pc' := 34) dX2_yieldOfAll_31 rfl lX2_111 iX2_yieldNow kc14 rfl (c_X2_yieldNow (by first | assumption | omega) (by first | assumption | omega) (by first | assumption | omega) (by first | assumption | omega) (by first | assumption | omega) (by first | assumption | omega) (by first | assumption | omega)) rfl rfl (Nat.le_of_ble_eq_true rfl) (Nat.le_of_ble_eq_true rfl) (Nat.le_of_ble_eq_true rfl) ?_
              refine q_iadd (pc' := 35) dX2_yieldOfAll_34 rfl ?_
              refine q_istoren (pc' := 36) (L' := [(1, q_i (sum2 + (s_y φ r k))), (0, q_r Γ 14), (2, q_i k), (3, q_i r)]) dX2_yieldOfAll_35 rfl rfl (by decide) rfl ?_
              refine q_iinc (pc' := 39) 3 (L' := [(3, q_i (r + 1)), (1, q_i (sum2 + (s_y φ r k))), (0, q_r Γ 14), (2, q_i k)]) dX2_yieldOfAll_36 rfl rfl (by decide) rfl ?_
              refine q_goto (pc' := 17) dX2_yieldOfAll_39 rfl ?_
              refine p_sub [2, 1, 3, 0] rfl ?_
              exact qih_17 _ (by omega) _ _ (by first | assumption | omega) (by first | assumption | omega) (by rw [q_sum_s (by omega), ← Int.add_assoc, ← qa_17_2]) rfl
        refine p_sub [1, 2, 3, 0] rfl ?_
        exact qlp_17 _ _ _ (by first | assumption | omega) (by first | assumption | omega) (by exact (Int.add_zero _).symm) rfl
  refine p_sub [2, 1, 0] rfl ?_
  exact qlp_4 _ _ _ _ (by first | assumption | omega) (by first | assumption | omega) (by rfl) (by exact s_offL_r) rfl
