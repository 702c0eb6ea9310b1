set_option maxRecDepth 20000 in
set_option maxHeartbeats 4000000 in
theorem c_X9_within {Γ : q_G} {K : List q_K} {S : q_S} {v l h : Int} (hv : q_rg v) (hl : q_rg l) (hh : q_rg h) : q_Sp Γ mX9_within 0 0 0 [q_i v, q_i l, q_i h] (K, S) (q_ev (some (q_i (q_B (l ≤ v ∧ v ≤ h)))) (K, S)) := by
  show q_Go Γ mX9_within 0 0 0 0 [(0, q_i v), (1, q_i l), (2, q_i h)] [] (K, S) (q_ev (some (q_i (q_B (l ≤ v ∧ v ≤ h)))) (K, S))
  refine q_iloadn (pc' := 1) 0 dX9_within_0 rfl rfl ?_
  refine q_iloadn (pc' := 2) 1 dX9_within_1 rfl rfl ?_
  refine q_icmp_lt (tgt := 14) (pc' := 5) dX9_within_2 rfl rfl (by omega) (by omega) (fun qc_2 => ?_) (fun qc_2 => ?_)
  · refine q_iconst (pc' := 15) dX9_within_14 rfl ?_
    refine p_zret dX9_within_15 rfl ?_ ?_
    · first | (rw [q_B_t ⟨by omega, by omega⟩]; done) | (rw [q_B_f (by omega)]; done)
    · rfl
  · refine q_iloadn (pc' := 6) 0 dX9_within_5 rfl rfl ?_
    refine q_iloadn (pc' := 7) 2 dX9_within_6 rfl rfl ?_
    refine q_icmp_gt (tgt := 14) (pc' := 10) dX9_within_7 rfl rfl (by omega) (by omega) (fun qc_7 => ?_) (fun qc_7 => ?_)
    · refine q_iconst (pc' := 15) dX9_within_14 rfl ?_
      refine p_zret dX9_within_15 rfl ?_ ?_
      · first | (rw [q_B_t ⟨by omega, by omega⟩]; done) | (rw [q_B_f (by omega)]; done)
      · rfl
    · refine q_iconst (pc' := 11) dX9_within_10 rfl ?_
      refine q_goto (pc' := 15) dX9_within_11 rfl ?_
      refine p_zret dX9_within_15 rfl ?_ ?_
      · first | (rw [q_B_t ⟨by omega, by omega⟩]; done) | (rw [q_B_f (by omega)]; done)
      · rfl
set_option maxRecDepth 20000 in
set_option maxHeartbeats 4000000 in
theorem c_X9_part {Γ : q_G} {S : q_S} {r p : Int} (r0 : 0 ≤ 15 + 4 * r + p) (r1 : 15 + 4 * r + p < 489) : q_Sp Γ mX9_part 0 0 0 [q_r Γ 150, q_i r, q_i p] (KC, S) (q_ev (some (q_i (s_pt (S 151) r p))) (KC, S)) := by
  show q_Go Γ mX9_part 0 0 0 0 [(0, q_r Γ 150), (1, q_i r), (2, q_i p)] [] (KC, S) (q_ev (some (q_i (s_pt (S 151) r p))) (KC, S))
  refine q_aloadn (pc' := 1) 0 dX9_part_0 rfl rfl ?_
  refine p_getR (pc' := 4) (f := 151) dX9_part_1 rfl fX9_7 kc150 rfl ?_
  refine q_bipush (pc' := 6) dX9_part_4 rfl rfl ?_
  refine q_iconst (pc' := 7) dX9_part_6 rfl ?_
  refine q_iloadn (pc' := 8) 1 dX9_part_7 rfl rfl ?_
  refine q_imul (pc' := 9) dX9_part_8 rfl ?_
  refine q_iadd (pc' := 10) dX9_part_9 rfl ?_
  refine q_iloadn (pc' := 11) 2 dX9_part_10 rfl rfl ?_
  refine q_iadd (pc' := 12) dX9_part_11 rfl ?_
  refine p_iald (pc' := 13) dX9_part_12 rfl kc151 (by omega) (by omega) (by decide) (fun qy_12 eqy_12 rqy_12 => ?_)
  refine p_iret dX9_part_13 rfl ?_ ?_
  · assumption
  · rfl
set_option maxRecDepth 20000 in
set_option maxHeartbeats 4000000 in
theorem c_X9_rightOf {Γ : q_G} {S : q_S} {a b h : Int} (r0 : 0 ≤ 39 + 10 * (6 * a + b) + h) (r1 : 39 + 10 * (6 * a + b) + h < 489) : q_Sp Γ mX9_rightOf 0 0 0 [q_r Γ 150, q_i a, q_i b, q_i h] (KC, S) (q_ev (some (q_i (s_rt (S 151) a b h))) (KC, S)) := by
  show q_Go Γ mX9_rightOf 0 0 0 0 [(0, q_r Γ 150), (1, q_i a), (2, q_i b), (3, q_i h)] [] (KC, S) (q_ev (some (q_i (s_rt (S 151) a b h))) (KC, S))
  refine q_aloadn (pc' := 1) 0 dX9_rightOf_0 rfl rfl ?_
  refine p_getR (pc' := 4) (f := 151) dX9_rightOf_1 rfl fX9_7 kc150 rfl ?_
  refine q_bipush (pc' := 6) dX9_rightOf_4 rfl rfl ?_
  refine q_bipush (pc' := 8) dX9_rightOf_6 rfl rfl ?_
  refine q_bipush (pc' := 10) dX9_rightOf_8 rfl rfl ?_
  refine q_iloadn (pc' := 11) 1 dX9_rightOf_10 rfl rfl ?_
  refine q_imul (pc' := 12) dX9_rightOf_11 rfl ?_
  refine q_iloadn (pc' := 13) 2 dX9_rightOf_12 rfl rfl ?_
  refine q_iadd (pc' := 14) dX9_rightOf_13 rfl ?_
  refine q_imul (pc' := 15) dX9_rightOf_14 rfl ?_
  refine q_iadd (pc' := 16) dX9_rightOf_15 rfl ?_
  refine q_iloadn (pc' := 17) 3 dX9_rightOf_16 rfl rfl ?_
  refine q_iadd (pc' := 18) dX9_rightOf_17 rfl ?_
  refine p_iald (pc' := 19) dX9_rightOf_18 rfl kc151 (by omega) (by omega) (by decide) (fun qy_18 eqy_18 rqy_18 => ?_)
  refine p_iret dX9_rightOf_19 rfl ?_ ?_
  · assumption
  · rfl
set_option maxRecDepth 20000 in
set_option maxHeartbeats 4000000 in
theorem c_X9_askPart {Γ : q_G} {S : q_S} {i p : Int} (r0 : 0 ≤ 399 + 4 * i + p) (r1 : 399 + 4 * i + p < 489) : q_Sp Γ mX9_askPart 0 0 0 [q_r Γ 150, q_i i, q_i p] (KC, S) (q_ev (some (q_i (s_as (S 151) i p))) (KC, S)) := by
  show q_Go Γ mX9_askPart 0 0 0 0 [(0, q_r Γ 150), (1, q_i i), (2, q_i p)] [] (KC, S) (q_ev (some (q_i (s_as (S 151) i p))) (KC, S))
  refine q_aloadn (pc' := 1) 0 dX9_askPart_0 rfl rfl ?_
  refine p_getR (pc' := 4) (f := 151) dX9_askPart_1 rfl fX9_7 kc150 rfl ?_
  refine q_sipush (pc' := 7) dX9_askPart_4 rfl rfl ?_
  refine q_iconst (pc' := 8) dX9_askPart_7 rfl ?_
  refine q_iloadn (pc' := 9) 1 dX9_askPart_8 rfl rfl ?_
  refine q_imul (pc' := 10) dX9_askPart_9 rfl ?_
  refine q_iadd (pc' := 11) dX9_askPart_10 rfl ?_
  refine q_iloadn (pc' := 12) 2 dX9_askPart_11 rfl rfl ?_
  refine q_iadd (pc' := 13) dX9_askPart_12 rfl ?_
  refine p_iald (pc' := 14) dX9_askPart_13 rfl kc151 (by omega) (by omega) (by decide) (fun qy_13 eqy_13 rqy_13 => ?_)
  refine p_iret dX9_askPart_14 rfl ?_ ?_
  · assumption
  · rfl
set_option maxRecDepth 20000 in
set_option maxHeartbeats 4000000 in
theorem c_X9_bidPart {Γ : q_G} {S : q_S} {i p : Int} (r0 : 0 ≤ 439 + 5 * i + p) (r1 : 439 + 5 * i + p < 489) : q_Sp Γ mX9_bidPart 0 0 0 [q_r Γ 150, q_i i, q_i p] (KC, S) (q_ev (some (q_i (s_bd (S 151) i p))) (KC, S)) := by
  show q_Go Γ mX9_bidPart 0 0 0 0 [(0, q_r Γ 150), (1, q_i i), (2, q_i p)] [] (KC, S) (q_ev (some (q_i (s_bd (S 151) i p))) (KC, S))
  refine q_aloadn (pc' := 1) 0 dX9_bidPart_0 rfl rfl ?_
  refine p_getR (pc' := 4) (f := 151) dX9_bidPart_1 rfl fX9_7 kc150 rfl ?_
  refine q_sipush (pc' := 7) dX9_bidPart_4 rfl rfl ?_
  refine q_iconst (pc' := 8) dX9_bidPart_7 rfl ?_
  refine q_iloadn (pc' := 9) 1 dX9_bidPart_8 rfl rfl ?_
  refine q_imul (pc' := 10) dX9_bidPart_9 rfl ?_
  refine q_iadd (pc' := 11) dX9_bidPart_10 rfl ?_
  refine q_iloadn (pc' := 12) 2 dX9_bidPart_11 rfl rfl ?_
  refine q_iadd (pc' := 13) dX9_bidPart_12 rfl ?_
  refine p_iald (pc' := 14) dX9_bidPart_13 rfl kc151 (by omega) (by omega) (by decide) (fun qy_13 eqy_13 rqy_13 => ?_)
  refine p_iret dX9_bidPart_14 rfl ?_ ?_
  · assumption
  · rfl
set_option maxRecDepth 20000 in
set_option maxHeartbeats 4000000 in
theorem c_X9_isRow {Γ : q_G} {S : q_S} {r : Int} (ok : s_ok (S 151)) (hr : q_rg r) : q_Sp Γ mX9_isRow 1 0 0 [q_r Γ 150, q_i r] (KC, S) (q_ev (some (q_i (q_B (0 ≤ r ∧ r < S 151 0)))) (KC, S)) := by
  show q_Go Γ mX9_isRow 1 0 0 0 [(0, q_r Γ 150), (1, q_i r)] [] (KC, S) (q_ev (some (q_i (q_B (0 ≤ r ∧ r < S 151 0)))) (KC, S))
  have rw0 := s_rows_b ok
  refine q_iloadn (pc' := 1) 1 dX9_isRow_0 rfl rfl ?_
  refine q_iconst (pc' := 2) dX9_isRow_1 rfl ?_
  refine q_aloadn (pc' := 3) 0 dX9_isRow_2 rfl rfl ?_
  refine p_getR (pc' := 6) (f := 151) dX9_isRow_3 rfl fX9_7 kc150 rfl ?_
  refine q_iconst (pc' := 7) dX9_isRow_6 rfl ?_
  refine p_iald (pc' := 8) dX9_isRow_7 rfl kc151 (by omega) (by omega) (by decide) (fun qy_7 eqy_7 rqy_7 => ?_)
  refine q_iconst (pc' := 9) dX9_isRow_8 rfl ?_
  refine q_isub (pc' := 10) dX9_isRow_9 rfl ?_
  refine q_callSI (pc' := 13) dX9_isRow_10 rfl lX9_42 iX9_within (c_X9_within (by omega) (by omega) (by omega)) rfl rfl (Nat.le_of_ble_eq_true rfl) (Nat.le_of_ble_eq_true rfl) (Nat.le_of_ble_eq_true rfl) ?_
  refine p_zret dX9_isRow_13 rfl ?_ ?_
  · refine q_B_congr ?_; omega
  · rfl
set_option maxRecDepth 20000 in
set_option maxHeartbeats 4000000 in
theorem c_X9_isHour {Γ : q_G} {S : q_S} {h : Int} (hr : q_rg h) : q_Sp Γ mX9_isHour 1 0 0 [q_i h] (KC, S) (q_ev (some (q_i (q_B (0 ≤ h ∧ h < 10)))) (KC, S)) := by
  show q_Go Γ mX9_isHour 1 0 0 0 [(0, q_i h)] [] (KC, S) (q_ev (some (q_i (q_B (0 ≤ h ∧ h < 10)))) (KC, S))
  refine q_iloadn (pc' := 1) 0 dX9_isHour_0 rfl rfl ?_
  refine q_iconst (pc' := 2) dX9_isHour_1 rfl ?_
  refine q_bipush (pc' := 4) dX9_isHour_2 rfl rfl ?_
  refine q_callSI (pc' := 7) dX9_isHour_4 rfl lX9_42 iX9_within (c_X9_within (by omega) (by omega) (by omega)) rfl rfl (Nat.le_of_ble_eq_true rfl) (Nat.le_of_ble_eq_true rfl) (Nat.le_of_ble_eq_true rfl) ?_
  refine p_zret dX9_isHour_7 rfl ?_ ?_
  · refine q_B_congr ?_; omega
  · rfl
set_option maxRecDepth 20000 in
set_option maxHeartbeats 4000000 in
theorem c_X9_slopeOf {Γ : q_G} {S : q_S} {h : Int} (h0 : 0 ≤ h) (h1 : h < 10) : q_Sp Γ mX9_slopeOf 0 0 0 [q_i h] (KC, S) (q_ev (some (q_i (s_slope h))) (KC, S)) := by
  show q_Go Γ mX9_slopeOf 0 0 0 0 [(0, q_i h)] [] (KC, S) (q_ev (some (q_i (s_slope h))) (KC, S))
  refine q_iloadn (pc' := 1) 0 dX9_slopeOf_0 rfl rfl ?_
  refine q_iconst (pc' := 2) dX9_slopeOf_1 rfl ?_
  refine q_icmp_ge (tgt := 9) (pc' := 5) dX9_slopeOf_2 rfl rfl (by omega) (by decide) (fun qc_2 => ?_) (fun qc_2 => ?_)
  · refine q_bipush (pc' := 11) dX9_slopeOf_9 rfl rfl ?_
    refine q_iloadn (pc' := 12) 0 dX9_slopeOf_11 rfl rfl ?_
    refine q_isub (pc' := 13) dX9_slopeOf_12 rfl ?_
    refine q_istoren (pc' := 14) (L' := [(1, q_i (9 - h)), (0, q_i h)]) dX9_slopeOf_13 rfl rfl (by decide) rfl ?_
    refine q_iloadn (pc' := 15) 0 dX9_slopeOf_14 rfl rfl ?_
    refine q_if_ne (tgt := 23) (pc' := 18) dX9_slopeOf_15 rfl rfl (by omega) (fun qc_15 => ?_) (fun qc_15 => ?_)
    · refine q_iconst (pc' := 24) dX9_slopeOf_23 rfl ?_
      refine q_iloadn (pc' := 25) 0 dX9_slopeOf_24 rfl rfl ?_
      refine q_isub (pc' := 26) dX9_slopeOf_25 rfl ?_
      refine p_iret dX9_slopeOf_26 rfl ?_ ?_
      · unfold s_slope; omega
      · rfl
    · refine q_bipush (pc' := 20) dX9_slopeOf_18 rfl rfl ?_
      refine q_goto (pc' := 26) dX9_slopeOf_20 rfl ?_
      refine p_iret dX9_slopeOf_26 rfl ?_ ?_
      · unfold s_slope; omega
      · rfl
  · refine q_iloadn (pc' := 6) 0 dX9_slopeOf_5 rfl rfl ?_
    refine q_goto (pc' := 13) dX9_slopeOf_6 rfl ?_
    refine q_istoren (pc' := 14) (L' := [(1, q_i h), (0, q_i h)]) dX9_slopeOf_13 rfl rfl (by decide) rfl ?_
    refine q_iloadn (pc' := 15) 0 dX9_slopeOf_14 rfl rfl ?_
    refine q_if_ne (tgt := 23) (pc' := 18) dX9_slopeOf_15 rfl rfl (by omega) (fun qc_15_1 => ?_) (fun qc_15_1 => ?_)
    · refine q_iconst (pc' := 24) dX9_slopeOf_23 rfl ?_
      refine q_iloadn (pc' := 25) 0 dX9_slopeOf_24 rfl rfl ?_
      refine q_isub (pc' := 26) dX9_slopeOf_25 rfl ?_
      refine p_iret dX9_slopeOf_26 rfl ?_ ?_
      · unfold s_slope; omega
      · rfl
    · refine q_bipush (pc' := 20) dX9_slopeOf_18 rfl rfl ?_
      refine q_goto (pc' := 26) dX9_slopeOf_20 rfl ?_
      refine p_iret dX9_slopeOf_26 rfl ?_ ?_
      · unfold s_slope; omega
      · rfl
set_option maxRecDepth 20000 in
set_option maxHeartbeats 4000000 in
theorem c_X9_sunOf {Γ : q_G} {S : q_S} {h : Int} (h0 : 0 ≤ h) (h1 : h < 10) : q_Sp Γ mX9_sunOf 0 0 0 [q_i h] (KC, S) (q_ev (some (q_i (s_sun h))) (KC, S)) := by
  show q_Go Γ mX9_sunOf 0 0 0 0 [(0, q_i h)] [] (KC, S) (q_ev (some (q_i (s_sun h))) (KC, S))
  refine q_iloadn (pc' := 1) 0 dX9_sunOf_0 rfl rfl ?_
  refine q_iconst (pc' := 2) dX9_sunOf_1 rfl ?_
  refine q_icmp_ge (tgt := 11) (pc' := 5) dX9_sunOf_2 rfl rfl (by omega) (by decide) (fun qc_2 => ?_) (fun qc_2 => ?_)
  · refine q_bipush (pc' := 13) dX9_sunOf_11 rfl rfl ?_
    refine q_iloadn (pc' := 14) 0 dX9_sunOf_13 rfl rfl ?_
    refine q_isub (pc' := 15) dX9_sunOf_14 rfl ?_
    refine p_iret dX9_sunOf_15 rfl ?_ ?_
    · unfold s_sun; omega
    · rfl
  · refine q_iloadn (pc' := 6) 0 dX9_sunOf_5 rfl rfl ?_
    refine q_iconst (pc' := 7) dX9_sunOf_6 rfl ?_
    refine q_iadd (pc' := 8) dX9_sunOf_7 rfl ?_
    refine q_goto (pc' := 15) dX9_sunOf_8 rfl ?_
    refine p_iret dX9_sunOf_15 rfl ?_ ?_
    · unfold s_sun; omega
    · rfl
set_option maxRecDepth 20000 in
set_option maxHeartbeats 4000000 in
theorem c_X9_shadow {Γ : q_G} {S : q_S} {a t b h : Int} (ok : s_ok (S 151)) (a0 : 0 ≤ a) (a1 : a < 6) (t0 : 0 ≤ t) (t1 : t ≤ 4) (b0 : 0 ≤ b) (b1 : b < 6) (h0 : 0 ≤ h) (h1 : h < 10) : q_Sp Γ mX9_shadow 1 0 0 [q_r Γ 150, q_i a, q_i t, q_i b, q_i h] (KC, S) (q_ev (some (q_i (s_sh (S 151) a t b h))) (KC, S)) := by
  show q_Go Γ mX9_shadow 1 0 0 0 [(0, q_r Γ 150), (1, q_i a), (2, q_i t), (3, q_i b), (4, q_i h)] [] (KC, S) (q_ev (some (q_i (s_sh (S 151) a t b h))) (KC, S))
  have pa := s_pt_b ok a0 a1
  have pb := s_pt_b ok b0 b1
  have sb := s_slope_b h0 h1
  have hm := q_mulb pa.2.1.1 pa.2.1.2 t0 t1
  refine q_iload (pc' := 2) 4 dX9_shadow_0 rfl rfl ?_
  refine q_iconst (pc' := 3) dX9_shadow_2 rfl ?_
  refine q_icmp_ge (tgt := 22) (pc' := 6) dX9_shadow_3 rfl rfl (by omega) (by decide) (fun qc_3 => ?_) (fun qc_3 => ?_)
  · refine q_aloadn (pc' := 23) 0 dX9_shadow_22 rfl rfl ?_
    refine q_iloadn (pc' := 24) 1 dX9_shadow_23 rfl rfl ?_
    refine q_iconst (pc' := 25) dX9_shadow_24 rfl ?_
    refine q_callVI (pc' := 28) dX9_shadow_25 rfl lX9_46 iX9_part kc150 rfl (c_X9_part (by omega) (by omega)) rfl rfl (Nat.le_of_ble_eq_true rfl) (Nat.le_of_ble_eq_true rfl) (Nat.le_of_ble_eq_true rfl) ?_
    refine q_aloadn (pc' := 29) 0 dX9_shadow_28 rfl rfl ?_
    refine q_iloadn (pc' := 30) 3 dX9_shadow_29 rfl rfl ?_
    refine q_iconst (pc' := 31) dX9_shadow_30 rfl ?_
    refine q_callVI (pc' := 34) dX9_shadow_31 rfl lX9_46 iX9_part kc150 rfl (c_X9_part (by omega) (by omega)) rfl rfl (Nat.le_of_ble_eq_true rfl) (Nat.le_of_ble_eq_true rfl) (Nat.le_of_ble_eq_true rfl) ?_
    refine q_isub (pc' := 35) dX9_shadow_34 rfl ?_
    refine q_istore (pc' := 37) (L' := [(5, q_i ((s_pt (S 151) a 0) - (s_pt (S 151) b 0))), (0, q_r Γ 150), (1, q_i a), (2, q_i t), (3, q_i b), (4, q_i h)]) dX9_shadow_35 rfl (by decide) rfl ?_
    have hd : ((s_pt (S 151) a 0) - (s_pt (S 151) b 0)) = s_dist (S 151) a b h := by unfold s_dist; omega
    refine q_iload (pc' := 39) 0 dX9_shadow_37 rfl rfl ?_
    refine q_if_gt (tgt := 44) (pc' := 42) dX9_shadow_39 rfl rfl (by omega) (fun qc_39 => ?_) (fun qc_39 => ?_)
    · refine q_iload (pc' := 46) 5 dX9_shadow_44 rfl rfl ?_
      refine q_callSI (pc' := 49) dX9_shadow_46 rfl lX9_50 iX9_slopeOf (c_X9_slopeOf (by omega) (by omega)) rfl rfl (Nat.le_of_ble_eq_true rfl) (Nat.le_of_ble_eq_true rfl) (Nat.le_of_ble_eq_true rfl) ?_
      refine q_istore (pc' := 51) (L' := [(6, q_i (s_slope h)), (5, q_i ((s_pt (S 151) a 0) - (s_pt (S 151) b 0))), (0, q_r Γ 150), (1, q_i a), (2, q_i t), (3, q_i b), (4, q_i h)]) dX9_shadow_49 rfl (by decide) rfl ?_
      refine q_aloadn (pc' := 52) 2 dX9_shadow_51 rfl rfl ?_
      refine q_iloadn (pc' := 53) 3 dX9_shadow_52 rfl rfl ?_
      refine q_iconst (pc' := 54) dX9_shadow_53 rfl ?_
      refine q_callVI (pc' := 57) dX9_shadow_54 rfl lX9_46 iX9_part kc150 rfl (c_X9_part (by omega) (by omega)) rfl rfl (Nat.le_of_ble_eq_true rfl) (Nat.le_of_ble_eq_true rfl) (Nat.le_of_ble_eq_true rfl) ?_
      refine q_iloadn (pc' := 58) 4 dX9_shadow_57 rfl rfl ?_
      refine q_imul (pc' := 59) dX9_shadow_58 rfl ?_
      refine q_iconst (pc' := 60) dX9_shadow_59 rfl ?_
      refine q_iload (pc' := 62) 1 dX9_shadow_60 rfl rfl ?_
      refine q_imul (pc' := 63) dX9_shadow_62 rfl ?_
      refine q_iload (pc' := 65) 0 dX9_shadow_63 rfl rfl ?_
      refine q_iadd (pc' := 66) dX9_shadow_65 rfl ?_
      refine q_iconst (pc' := 67) dX9_shadow_66 rfl ?_
      refine q_isub (pc' := 68) dX9_shadow_67 rfl ?_
      refine q_iload (pc' := 70) 0 dX9_shadow_68 rfl rfl ?_
      refine q_idiv (pc' := 71) dX9_shadow_70 rfl (by omega) (by omega) (by omega) (by omega) ?_
      refine q_isub (pc' := 72) dX9_shadow_71 rfl ?_
      refine p_top (fun qx_72 hqx_72 => ?_)
      refine q_istore (pc' := 74) (L' := [(7, q_i qx_72), (6, q_i (s_slope h)), (5, q_i ((s_pt (S 151) a 0) - (s_pt (S 151) b 0))), (0, q_r Γ 150), (1, q_i a), (2, q_i t), (3, q_i b), (4, q_i h)]) dX9_shadow_72 rfl (by decide) rfl ?_
      have hl : (2 * ((s_pt (S 151) a 0) - (s_pt (S 151) b 0)) + s_slope h - 1) / s_slope h = s_loss (S 151) a b h := by unfold s_loss; rw [← hd]
      have hb := s_loss_b ok a0 a1 b0 b1 h0 h1 (by omega)
      refine q_iload (pc' := 76) 0 dX9_shadow_74 rfl rfl ?_
      refine q_if_le (tgt := 84) (pc' := 79) dX9_shadow_76 rfl rfl (by omega) (fun qc_76 => ?_) (fun qc_76 => ?_)
      · refine q_iconst (pc' := 85) dX9_shadow_84 rfl ?_
        refine p_iret dX9_shadow_85 rfl ?_ ?_
        · unfold s_sh; omega
        · rfl
      · refine q_iload (pc' := 81) 0 dX9_shadow_79 rfl rfl ?_
        refine q_goto (pc' := 85) dX9_shadow_81 rfl ?_
        refine p_iret dX9_shadow_85 rfl ?_ ?_
        · unfold s_sh; omega
        · rfl
    · refine q_iconst (pc' := 43) dX9_shadow_42 rfl ?_
      refine p_iret dX9_shadow_43 rfl ?_ ?_
      · unfold s_sh; omega
      · rfl
  · refine q_aloadn (pc' := 7) 0 dX9_shadow_6 rfl rfl ?_
    refine q_iloadn (pc' := 8) 3 dX9_shadow_7 rfl rfl ?_
    refine q_iconst (pc' := 9) dX9_shadow_8 rfl ?_
    refine q_callVI (pc' := 12) dX9_shadow_9 rfl lX9_46 iX9_part kc150 rfl (c_X9_part (by omega) (by omega)) rfl rfl (Nat.le_of_ble_eq_true rfl) (Nat.le_of_ble_eq_true rfl) (Nat.le_of_ble_eq_true rfl) ?_
    refine q_aloadn (pc' := 13) 0 dX9_shadow_12 rfl rfl ?_
    refine q_iloadn (pc' := 14) 1 dX9_shadow_13 rfl rfl ?_
    refine q_iconst (pc' := 15) dX9_shadow_14 rfl ?_
    refine q_callVI (pc' := 18) dX9_shadow_15 rfl lX9_46 iX9_part kc150 rfl (c_X9_part (by omega) (by omega)) rfl rfl (Nat.le_of_ble_eq_true rfl) (Nat.le_of_ble_eq_true rfl) (Nat.le_of_ble_eq_true rfl) ?_
    refine q_isub (pc' := 19) dX9_shadow_18 rfl ?_
    refine q_goto (pc' := 35) dX9_shadow_19 rfl ?_
    refine q_istore (pc' := 37) (L' := [(5, q_i ((s_pt (S 151) b 0) - (s_pt (S 151) a 0))), (0, q_r Γ 150), (1, q_i a), (2, q_i t), (3, q_i b), (4, q_i h)]) dX9_shadow_35 rfl (by decide) rfl ?_
    have hd : ((s_pt (S 151) b 0) - (s_pt (S 151) a 0)) = s_dist (S 151) a b h := by unfold s_dist; omega
    refine q_iload (pc' := 39) 0 dX9_shadow_37 rfl rfl ?_
    refine q_if_gt (tgt := 44) (pc' := 42) dX9_shadow_39 rfl rfl (by omega) (fun qc_39_1 => ?_) (fun qc_39_1 => ?_)
    · refine q_iload (pc' := 46) 5 dX9_shadow_44 rfl rfl ?_
      refine q_callSI (pc' := 49) dX9_shadow_46 rfl lX9_50 iX9_slopeOf (c_X9_slopeOf (by omega) (by omega)) rfl rfl (Nat.le_of_ble_eq_true rfl) (Nat.le_of_ble_eq_true rfl) (Nat.le_of_ble_eq_true rfl) ?_
      refine q_istore (pc' := 51) (L' := [(6, q_i (s_slope h)), (5, q_i ((s_pt (S 151) b 0) - (s_pt (S 151) a 0))), (0, q_r Γ 150), (1, q_i a), (2, q_i t), (3, q_i b), (4, q_i h)]) dX9_shadow_49 rfl (by decide) rfl ?_
      refine q_aloadn (pc' := 52) 2 dX9_shadow_51 rfl rfl ?_
      refine q_iloadn (pc' := 53) 3 dX9_shadow_52 rfl rfl ?_
      refine q_iconst (pc' := 54) dX9_shadow_53 rfl ?_
      refine q_callVI (pc' := 57) dX9_shadow_54 rfl lX9_46 iX9_part kc150 rfl (c_X9_part (by omega) (by omega)) rfl rfl (Nat.le_of_ble_eq_true rfl) (Nat.le_of_ble_eq_true rfl) (Nat.le_of_ble_eq_true rfl) ?_
      refine q_iloadn (pc' := 58) 4 dX9_shadow_57 rfl rfl ?_
      refine q_imul (pc' := 59) dX9_shadow_58 rfl ?_
      refine q_iconst (pc' := 60) dX9_shadow_59 rfl ?_
      refine q_iload (pc' := 62) 1 dX9_shadow_60 rfl rfl ?_
      refine q_imul (pc' := 63) dX9_shadow_62 rfl ?_
      refine q_iload (pc' := 65) 0 dX9_shadow_63 rfl rfl ?_
      refine q_iadd (pc' := 66) dX9_shadow_65 rfl ?_
      refine q_iconst (pc' := 67) dX9_shadow_66 rfl ?_
      refine q_isub (pc' := 68) dX9_shadow_67 rfl ?_
      refine q_iload (pc' := 70) 0 dX9_shadow_68 rfl rfl ?_
      refine q_idiv (pc' := 71) dX9_shadow_70 rfl (by omega) (by omega) (by omega) (by omega) ?_
      refine q_isub (pc' := 72) dX9_shadow_71 rfl ?_
      refine p_top (fun qx_72_1 hqx_72_1 => ?_)
      refine q_istore (pc' := 74) (L' := [(7, q_i qx_72_1), (6, q_i (s_slope h)), (5, q_i ((s_pt (S 151) b 0) - (s_pt (S 151) a 0))), (0, q_r Γ 150), (1, q_i a), (2, q_i t), (3, q_i b), (4, q_i h)]) dX9_shadow_72 rfl (by decide) rfl ?_
      have hl : (2 * ((s_pt (S 151) b 0) - (s_pt (S 151) a 0)) + s_slope h - 1) / s_slope h = s_loss (S 151) a b h := by unfold s_loss; rw [← hd]
      have hb := s_loss_b ok a0 a1 b0 b1 h0 h1 (by omega)
      refine q_iload (pc' := 76) 0 dX9_shadow_74 rfl rfl ?_
      refine q_if_le (tgt := 84) (pc' := 79) dX9_shadow_76 rfl rfl (by omega) (fun qc_76_1 => ?_) (fun qc_76_1 => ?_)
      · refine q_iconst (pc' := 85) dX9_shadow_84 rfl ?_
        refine p_iret dX9_shadow_85 rfl ?_ ?_
        · unfold s_sh; omega
        · rfl
      · refine q_iload (pc' := 81) 0 dX9_shadow_79 rfl rfl ?_
        refine q_goto (pc' := 85) dX9_shadow_81 rfl ?_
        refine p_iret dX9_shadow_85 rfl ?_ ?_
        · unfold s_sh; omega
        · rfl
    · refine q_iconst (pc' := 43) dX9_shadow_42 rfl ?_
      refine p_iret dX9_shadow_43 rfl ?_ ?_
      · unfold s_sh; omega
      · rfl
set_option maxRecDepth 20000 in
set_option maxHeartbeats 4000000 in
theorem c_X9_isFlat {Γ : q_G} {S : q_S} {h : Int} (ok : s_ok (S 151)) (h0 : 0 ≤ h) (h1 : h < 10) : q_Sp Γ mX9_isFlat 0 0 0 [q_r Γ 150, q_i h] (KC, S) (q_ev (some (q_i (q_B (s_flat (S 151) h)))) (KC, S)) := by
  show q_Go Γ mX9_isFlat 0 0 0 0 [(0, q_r Γ 150), (1, q_i h)] [] (KC, S) (q_ev (some (q_i (q_B (s_flat (S 151) h)))) (KC, S))
  refine q_aloadn (pc' := 1) 0 dX9_isFlat_0 rfl rfl ?_
  refine p_getR (pc' := 4) (f := 151) dX9_isFlat_1 rfl fX9_7 kc150 rfl ?_
  refine q_iconst (pc' := 5) dX9_isFlat_4 rfl ?_
  refine q_iloadn (pc' := 6) 1 dX9_isFlat_5 rfl rfl ?_
  refine q_iadd (pc' := 7) dX9_isFlat_6 rfl ?_
  refine p_iald (pc' := 8) dX9_isFlat_7 rfl kc151 (by omega) (by omega) (by decide) (fun qy_7 eqy_7 rqy_7 => ?_)
  refine q_aloadn (pc' := 9) 0 dX9_isFlat_8 rfl rfl ?_
  refine p_getR (pc' := 12) (f := 151) dX9_isFlat_9 rfl fX9_7 kc150 rfl ?_
  refine q_iconst (pc' := 13) dX9_isFlat_12 rfl ?_
  refine p_iald (pc' := 14) dX9_isFlat_13 rfl kc151 (by omega) (by omega) (by decide) (fun qy_13 eqy_13 rqy_13 => ?_)
  refine q_icmp_lt (tgt := 21) (pc' := 17) dX9_isFlat_14 rfl rfl (by omega) (by omega) (fun qc_14 => ?_) (fun qc_14 => ?_)
  · refine q_iconst (pc' := 22) dX9_isFlat_21 rfl ?_
    refine p_zret dX9_isFlat_22 rfl ?_ ?_
    · first | exact (q_B_t (by unfold s_flat; omega)).symm | exact (q_B_f (by unfold s_flat; omega)).symm
    · rfl
  · refine q_iconst (pc' := 18) dX9_isFlat_17 rfl ?_
    refine q_goto (pc' := 22) dX9_isFlat_18 rfl ?_
    refine p_zret dX9_isFlat_22 rfl ?_ ?_
    · first | exact (q_B_t (by unfold s_flat; omega)).symm | exact (q_B_f (by unfold s_flat; omega)).symm
    · rfl
set_option maxRecDepth 20000 in
set_option maxHeartbeats 4000000 in
theorem c_X9_keepsRights {Γ : q_G} {S : q_S} {a t h : Int} (ok : s_ok (S 151)) (a0 : 0 ≤ a) (a1 : a < 6) (t0 : 0 ≤ t) (t1 : t ≤ 4) (h0 : 0 ≤ h) (h1 : h < 10) : q_Sp Γ mX9_keepsRights 2 0 0 [q_r Γ 150, q_i a, q_i t, q_i h] (KC, S) (q_ev (some (q_i (q_B (s_keeps (S 151) a t h)))) (KC, S)) := by
  show q_Go Γ mX9_keepsRights 2 0 0 0 [(0, q_r Γ 150), (1, q_i a), (2, q_i t), (3, q_i h)] [] (KC, S) (q_ev (some (q_i (q_B (s_keeps (S 151) a t h)))) (KC, S))
  have rw0 := s_rows_b ok
  refine q_iconst (pc' := 1) dX9_keepsRights_0 rfl ?_
  refine q_istore (pc' := 3) (L' := [(4, q_i 1), (0, q_r Γ 150), (1, q_i a), (2, q_i t), (3, q_i h)]) dX9_keepsRights_1 rfl (by decide) rfl ?_
  refine q_iconst (pc' := 4) dX9_keepsRights_3 rfl ?_
  refine q_istore (pc' := 6) (L' := [(5, q_i 0), (4, q_i 1), (0, q_r Γ 150), (1, q_i a), (2, q_i t), (3, q_i h)]) dX9_keepsRights_4 rfl (by decide) rfl ?_
  have qlp_6 : ∀ (qn_6 : Nat) (z k : Int), (0 ≤ k) → (k ≤ S 151 0) → (z = q_B (s_kN (S 151) a t h k)) → ((6 - k).toNat) = qn_6 → q_Go Γ mX9_keepsRights 2 0 0 6 [(0, q_r Γ 150), (1, q_i a), (2, q_i t), (3, q_i h), (4, q_i z), (5, q_i k)] [] (KC, S) (q_ev (some (q_i (q_B (s_keeps (S 151) a t h)))) (KC, S)) := by
    intro qn_6
    induction qn_6 using Nat.strongRecOn with
    | ind qn_6 qih_6 =>
      intro z k qa_6_0 qa_6_1 qa_6_2 qhn_6
      subst qhn_6
      have zr : (s_kN (S 151) a t h k ∧ z = 1) ∨ (¬ s_kN (S 151) a t h k ∧ z = 0) := by rw [qa_6_2]; exact q_B_or _
      refine q_iload (pc' := 8) 5 dX9_keepsRights_6 rfl rfl ?_
      refine q_aloadn (pc' := 9) 0 dX9_keepsRights_8 rfl rfl ?_
      refine p_getR (pc' := 12) (f := 151) dX9_keepsRights_9 rfl fX9_7 kc150 rfl ?_
      refine q_iconst (pc' := 13) dX9_keepsRights_12 rfl ?_
      refine p_iald (pc' := 14) dX9_keepsRights_13 rfl kc151 (by first | assumption | omega) (by first | assumption | omega) (by decide) (fun qy_13 eqy_13 rqy_13 => ?_)
      refine q_icmp_ge (tgt := 61) (pc' := 17) dX9_keepsRights_14 rfl rfl (by first | assumption | omega) (by first | assumption | omega) (fun qc_14 => ?_) (fun qc_14 => ?_)
      · refine q_iload (pc' := 63) 4 dX9_keepsRights_61 rfl rfl ?_
        refine p_zret dX9_keepsRights_63 rfl ?_ ?_
        · rw [qa_6_2]; exact q_B_congr (by rw [show k = S 151 0 by omega]; rfl)
        · rfl
      · refine q_iload (pc' := 19) 4 dX9_keepsRights_17 rfl rfl ?_
        refine q_if_eq (tgt := 52) (pc' := 22) dX9_keepsRights_19 rfl rfl (by first | assumption | omega) (fun qc_19 => ?_) (fun qc_19 => ?_)
        · refine q_iconst (pc' := 53) dX9_keepsRights_52 rfl ?_
          refine q_istore (pc' := 55) (L' := [(4, q_i 0), (0, q_r Γ 150), (1, q_i a), (2, q_i t), (3, q_i h), (5, q_i k)]) dX9_keepsRights_53 rfl (by decide) rfl ?_
          refine q_iinc (pc' := 58) 5 (L' := [(5, q_i (k + 1)), (4, q_i 0), (0, q_r Γ 150), (1, q_i a), (2, q_i t), (3, q_i h)]) dX9_keepsRights_55 rfl rfl (by decide) rfl ?_
          refine q_goto (pc' := 6) dX9_keepsRights_58 rfl ?_
          refine p_sub [2, 3, 4, 5, 1, 0] rfl ?_
          exact qih_6 _ (by omega) _ _ (by first | assumption | omega) (by first | assumption | omega) (by first | exact q_B_1 ((s_kN_s (by omega)).mpr ⟨(by rcases zr with q | q; exact q.1; omega), by omega⟩) | exact q_B_0 (fun q => by have q1 := (s_kN_s (by omega)).mp q; rcases zr with q2 | q2; omega; exact q2.1 q1.1)) rfl
        · refine q_iload (pc' := 24) 5 dX9_keepsRights_22 rfl rfl ?_
          refine q_iloadn (pc' := 25) 1 dX9_keepsRights_24 rfl rfl ?_
          refine q_icmp_eq (tgt := 48) (pc' := 28) dX9_keepsRights_25 rfl rfl (by first | assumption | omega) (by first | assumption | omega) (fun qc_25 => ?_) (fun qc_25 => ?_)
          · refine q_iconst (pc' := 49) dX9_keepsRights_48 rfl ?_
            refine q_goto (pc' := 53) dX9_keepsRights_49 rfl ?_
            refine q_istore (pc' := 55) (L' := [(4, q_i 1), (0, q_r Γ 150), (1, q_i a), (2, q_i t), (3, q_i h), (5, q_i k)]) dX9_keepsRights_53 rfl (by decide) rfl ?_
            refine q_iinc (pc' := 58) 5 (L' := [(5, q_i (k + 1)), (4, q_i 1), (0, q_r Γ 150), (1, q_i a), (2, q_i t), (3, q_i h)]) dX9_keepsRights_55 rfl rfl (by decide) rfl ?_
            refine q_goto (pc' := 6) dX9_keepsRights_58 rfl ?_
            refine p_sub [2, 3, 4, 5, 1, 0] rfl ?_
            exact qih_6 _ (by omega) _ _ (by first | assumption | omega) (by first | assumption | omega) (by first | exact q_B_1 ((s_kN_s (by omega)).mpr ⟨(by rcases zr with q | q; exact q.1; omega), by omega⟩) | exact q_B_0 (fun q => by have q1 := (s_kN_s (by omega)).mp q; rcases zr with q2 | q2; omega; exact q2.1 q1.1)) rfl
          · have b1 := s_sh_b ok a0 a1 t0 t1 (b := k) (by omega) (by omega) h0 h1
            have b2 := s_rt_b ok a0 a1 (b := k) (by omega) (by omega) h0 h1
            refine q_aloadn (pc' := 29) 0 dX9_keepsRights_28 rfl rfl ?_
            refine q_iloadn (pc' := 30) 1 dX9_keepsRights_29 rfl rfl ?_
            refine q_iloadn (pc' := 31) 2 dX9_keepsRights_30 rfl rfl ?_
            refine q_iload (pc' := 33) 5 dX9_keepsRights_31 rfl rfl ?_
            refine q_iloadn (pc' := 34) 3 dX9_keepsRights_33 rfl rfl ?_
            refine q_callVI (pc' := 37) dX9_keepsRights_34 rfl lX9_54 iX9_shadow kc150 rfl (c_X9_shadow (by first | assumption | omega) (by first | assumption | omega) (by first | assumption | omega) (by first | assumption | omega) (by first | assumption | omega) (by first | assumption | omega) (by first | assumption | omega) (by first | assumption | omega) (by first | assumption | omega)) rfl rfl (Nat.le_of_ble_eq_true rfl) (Nat.le_of_ble_eq_true rfl) (Nat.le_of_ble_eq_true rfl) ?_
            refine q_aloadn (pc' := 38) 0 dX9_keepsRights_37 rfl rfl ?_
            refine q_iloadn (pc' := 39) 1 dX9_keepsRights_38 rfl rfl ?_
            refine q_iload (pc' := 41) 5 dX9_keepsRights_39 rfl rfl ?_
            refine q_iloadn (pc' := 42) 3 dX9_keepsRights_41 rfl rfl ?_
            refine q_callVI (pc' := 45) dX9_keepsRights_42 rfl lX9_58 iX9_rightOf kc150 rfl (c_X9_rightOf (by first | assumption | omega) (by first | assumption | omega)) rfl rfl (Nat.le_of_ble_eq_true rfl) (Nat.le_of_ble_eq_true rfl) (Nat.le_of_ble_eq_true rfl) ?_
            refine q_icmp_gt (tgt := 52) (pc' := 48) dX9_keepsRights_45 rfl rfl (by first | assumption | omega) (by first | assumption | omega) (fun qc_45 => ?_) (fun qc_45 => ?_)
            · refine q_iconst (pc' := 53) dX9_keepsRights_52 rfl ?_
              refine q_istore (pc' := 55) (L' := [(4, q_i 0), (0, q_r Γ 150), (1, q_i a), (2, q_i t), (3, q_i h), (5, q_i k)]) dX9_keepsRights_53 rfl (by decide) rfl ?_
              refine q_iinc (pc' := 58) 5 (L' := [(5, q_i (k + 1)), (4, q_i 0), (0, q_r Γ 150), (1, q_i a), (2, q_i t), (3, q_i h)]) dX9_keepsRights_55 rfl rfl (by decide) rfl ?_
              refine q_goto (pc' := 6) dX9_keepsRights_58 rfl ?_
              refine p_sub [2, 3, 4, 5, 1, 0] rfl ?_
              exact qih_6 _ (by omega) _ _ (by first | assumption | omega) (by first | assumption | omega) (by first | exact q_B_1 ((s_kN_s (by omega)).mpr ⟨(by rcases zr with q | q; exact q.1; omega), by omega⟩) | exact q_B_0 (fun q => by have q1 := (s_kN_s (by omega)).mp q; rcases zr with q2 | q2; omega; exact q2.1 q1.1)) rfl
            · refine q_iconst (pc' := 49) dX9_keepsRights_48 rfl ?_
              refine q_goto (pc' := 53) dX9_keepsRights_49 rfl ?_
              refine q_istore (pc' := 55) (L' := [(4, q_i 1), (0, q_r Γ 150), (1, q_i a), (2, q_i t), (3, q_i h), (5, q_i k)]) dX9_keepsRights_53 rfl (by decide) rfl ?_
              refine q_iinc (pc' := 58) 5 (L' := [(5, q_i (k + 1)), (4, q_i 1), (0, q_r Γ 150), (1, q_i a), (2, q_i t), (3, q_i h)]) dX9_keepsRights_55 rfl rfl (by decide) rfl ?_
              refine q_goto (pc' := 6) dX9_keepsRights_58 rfl ?_
              refine p_sub [2, 3, 4, 5, 1, 0] rfl ?_
              exact qih_6 _ (by omega) _ _ (by first | assumption | omega) (by first | assumption | omega) (by first | exact q_B_1 ((s_kN_s (by omega)).mpr ⟨(by rcases zr with q | q; exact q.1; omega), by omega⟩) | exact q_B_0 (fun q => by have q1 := (s_kN_s (by omega)).mp q; rcases zr with q2 | q2; omega; exact q2.1 q1.1)) rfl
  refine p_sub [2, 3, 4, 5, 1, 0] rfl ?_
  exact qlp_6 _ _ _ (by first | assumption | omega) (by first | assumption | omega) (by exact q_B_1 (fun b b0 b1 => by omega)) rfl
set_option maxRecDepth 20000 in
set_option maxHeartbeats 4000000 in
theorem c_X9_tiltIn {Γ : q_G} {S : q_S} {r o h : Int} (ok : s_ok (S 151)) (r0 : 0 ≤ r) (r1 : r < 6) (o0 : 0 ≤ o) (o1 : o ≤ 4) (h0 : 0 ≤ h) (h1 : h < 10) : q_Sp Γ mX9_tiltIn 3 0 0 [q_r Γ 150, q_i r, q_i o, q_i h] (KC, S) (q_ev (some (q_i (s_ti (S 151) r o h))) (KC, S)) := by
  show q_Go Γ mX9_tiltIn 3 0 0 0 [(0, q_r Γ 150), (1, q_i r), (2, q_i o), (3, q_i h)] [] (KC, S) (q_ev (some (q_i (s_ti (S 151) r o h))) (KC, S))
  refine q_aloadn (pc' := 1) 0 dX9_tiltIn_0 rfl rfl ?_
  refine q_iloadn (pc' := 2) 3 dX9_tiltIn_1 rfl rfl ?_
  refine q_callVI (pc' := 5) dX9_tiltIn_2 rfl lX9_62 iX9_isFlat kc150 rfl (c_X9_isFlat (by first | assumption | omega) (by first | assumption | omega) (by first | assumption | omega)) rfl rfl (Nat.le_of_ble_eq_true rfl) (Nat.le_of_ble_eq_true rfl) (Nat.le_of_ble_eq_true rfl) ?_
  refine q_if_eq_B (tgt := 12) (pc' := 8) dX9_tiltIn_5 rfl rfl (fun qc_5 => ?_) (fun qc_5 => ?_)
  · refine q_iloadn (pc' := 13) 2 dX9_tiltIn_12 rfl rfl ?_
    refine q_istore (pc' := 15) (L' := [(4, q_i o), (0, q_r Γ 150), (1, q_i r), (2, q_i o), (3, q_i h)]) dX9_tiltIn_13 rfl (by decide) rfl ?_
    have qlp_15 : ∀ (qn_15 : Nat) (t : Int), (0 ≤ t) → (t ≤ 4) → (s_ti (S 151) r o h = s_dn (fun t => s_keeps (S 151) r t h) t.toNat) → (t.toNat) = qn_15 → q_Go Γ mX9_tiltIn 3 0 0 15 [(0, q_r Γ 150), (1, q_i r), (3, q_i h), (4, q_i t)] [] (KC, S) (q_ev (some (q_i (s_ti (S 151) r o h))) (KC, S)) := by
      intro qn_15
      induction qn_15 using Nat.strongRecOn with
      | ind qn_15 qih_15 =>
        intro t qa_15_0 qa_15_1 qa_15_2 qhn_15
        subst qhn_15
        refine q_iload (pc' := 17) 3 dX9_tiltIn_15 rfl rfl ?_
        refine q_if_le (tgt := 37) (pc' := 20) dX9_tiltIn_17 rfl rfl (by first | assumption | omega) (fun qc_17 => ?_) (fun qc_17 => ?_)
        · refine q_iload (pc' := 39) 3 dX9_tiltIn_37 rfl rfl ?_
          refine p_iret dX9_tiltIn_39 rfl ?_ ?_
          · first | (rw [qa_15_2, show t = 0 by omega]; rfl) | (rw [qa_15_2]; exact (s_dn_t (P := fun t => s_keeps (S 151) r t h) (by omega) qnone_).symm)
          · rfl
        · refine q_aloadn (pc' := 21) 0 dX9_tiltIn_20 rfl rfl ?_
          refine q_iloadn (pc' := 22) 1 dX9_tiltIn_21 rfl rfl ?_
          refine q_iload (pc' := 24) 3 dX9_tiltIn_22 rfl rfl ?_
          refine q_iloadn (pc' := 25) 2 dX9_tiltIn_24 rfl rfl ?_
          refine q_callVI (pc' := 28) dX9_tiltIn_25 rfl lX9_66 iX9_keepsRights kc150 rfl (c_X9_keepsRights (by first | assumption | omega) (by first | assumption | omega) (by first | assumption | omega) (by first | assumption | omega) (by first | assumption | omega) (by first | assumption | omega) (by first | assumption | omega)) rfl rfl (Nat.le_of_ble_eq_true rfl) (Nat.le_of_ble_eq_true rfl) (Nat.le_of_ble_eq_true rfl) ?_
          refine q_if_ne_B (tgt := 37) (pc' := 31) dX9_tiltIn_28 rfl rfl (fun qc_28 => ?_) (fun qc_28 => ?_)
          · refine q_iload (pc' := 39) 3 dX9_tiltIn_37 rfl rfl ?_
            refine p_iret dX9_tiltIn_39 rfl ?_ ?_
            · first | (rw [qa_15_2, show t = 0 by omega]; rfl) | (rw [qa_15_2]; exact (s_dn_t (P := fun t => s_keeps (S 151) r t h) (by omega) qc_28).symm)
            · rfl
          · refine q_iinc (pc' := 34) 3 (L' := [(4, q_i (t + (-1))), (0, q_r Γ 150), (1, q_i r), (3, q_i h)]) dX9_tiltIn_31 rfl rfl (by decide) rfl ?_
            refine q_goto (pc' := 15) dX9_tiltIn_34 rfl ?_
            refine p_sub [1, 2, 3, 0] rfl ?_
            exact qih_15 _ (by omega) _ (by first | assumption | omega) (by first | assumption | omega) (by rw [qa_15_2, s_dn_f (P := fun t => s_keeps (S 151) r t h) (by omega) qc_28]; rfl) rfl
    refine p_sub [1, 2, 4, 0] rfl ?_
    exact qlp_15 _ _ (by first | assumption | omega) (by first | assumption | omega) (by first | exact q_if_t qc_5 | exact q_if_f qc_5) rfl
  · refine q_iconst (pc' := 9) dX9_tiltIn_8 rfl ?_
    refine q_goto (pc' := 13) dX9_tiltIn_9 rfl ?_
    refine q_istore (pc' := 15) (L' := [(4, q_i 0), (0, q_r Γ 150), (1, q_i r), (2, q_i o), (3, q_i h)]) dX9_tiltIn_13 rfl (by decide) rfl ?_
    have qlp_15_1 : ∀ (qn_15_1 : Nat) (t : Int), (0 ≤ t) → (t ≤ 4) → (s_ti (S 151) r o h = s_dn (fun t => s_keeps (S 151) r t h) t.toNat) → (t.toNat) = qn_15_1 → q_Go Γ mX9_tiltIn 3 0 0 15 [(0, q_r Γ 150), (1, q_i r), (3, q_i h), (4, q_i t)] [] (KC, S) (q_ev (some (q_i (s_ti (S 151) r o h))) (KC, S)) := by
      intro qn_15_1
      induction qn_15_1 using Nat.strongRecOn with
      | ind qn_15_1 qih_15_1 =>
        intro t qa_15_1_0 qa_15_1_1 qa_15_1_2 qhn_15_1
        subst qhn_15_1
        refine q_iload (pc' := 17) 3 dX9_tiltIn_15 rfl rfl ?_
        refine q_if_le (tgt := 37) (pc' := 20) dX9_tiltIn_17 rfl rfl (by first | assumption | omega) (fun qc_17_1 => ?_) (fun qc_17_1 => ?_)
        · refine q_iload (pc' := 39) 3 dX9_tiltIn_37 rfl rfl ?_
          refine p_iret dX9_tiltIn_39 rfl ?_ ?_
          · first | (rw [qa_15_1_2, show t = 0 by omega]; rfl) | (rw [qa_15_1_2]; exact (s_dn_t (P := fun t => s_keeps (S 151) r t h) (by omega) qnone_).symm)
          · rfl
        · refine q_aloadn (pc' := 21) 0 dX9_tiltIn_20 rfl rfl ?_
          refine q_iloadn (pc' := 22) 1 dX9_tiltIn_21 rfl rfl ?_
          refine q_iload (pc' := 24) 3 dX9_tiltIn_22 rfl rfl ?_
          refine q_iloadn (pc' := 25) 2 dX9_tiltIn_24 rfl rfl ?_
          refine q_callVI (pc' := 28) dX9_tiltIn_25 rfl lX9_66 iX9_keepsRights kc150 rfl (c_X9_keepsRights (by first | assumption | omega) (by first | assumption | omega) (by first | assumption | omega) (by first | assumption | omega) (by first | assumption | omega) (by first | assumption | omega) (by first | assumption | omega)) rfl rfl (Nat.le_of_ble_eq_true rfl) (Nat.le_of_ble_eq_true rfl) (Nat.le_of_ble_eq_true rfl) ?_
          refine q_if_ne_B (tgt := 37) (pc' := 31) dX9_tiltIn_28 rfl rfl (fun qc_28_1 => ?_) (fun qc_28_1 => ?_)
          · refine q_iload (pc' := 39) 3 dX9_tiltIn_37 rfl rfl ?_
            refine p_iret dX9_tiltIn_39 rfl ?_ ?_
            · first | (rw [qa_15_1_2, show t = 0 by omega]; rfl) | (rw [qa_15_1_2]; exact (s_dn_t (P := fun t => s_keeps (S 151) r t h) (by omega) qc_28_1).symm)
            · rfl
          · refine q_iinc (pc' := 34) 3 (L' := [(4, q_i (t + (-1))), (0, q_r Γ 150), (1, q_i r), (3, q_i h)]) dX9_tiltIn_31 rfl rfl (by decide) rfl ?_
            refine q_goto (pc' := 15) dX9_tiltIn_34 rfl ?_
            refine p_sub [1, 2, 3, 0] rfl ?_
            exact qih_15_1 _ (by omega) _ (by first | assumption | omega) (by first | assumption | omega) (by rw [qa_15_1_2, s_dn_f (P := fun t => s_keeps (S 151) r t h) (by omega) qc_28_1]; rfl) rfl
    refine p_sub [1, 2, 4, 0] rfl ?_
    exact qlp_15_1 _ _ (by first | assumption | omega) (by first | assumption | omega) (by first | exact q_if_t qc_5 | exact q_if_f qc_5) rfl
set_option maxRecDepth 20000 in
set_option maxHeartbeats 4000000 in
theorem c_X9_heightIn {Γ : q_G} {S : q_S} {r h : Int} (ok : s_ok (S 151)) (r0 : 0 ≤ r) (r1 : r < 6) (h0 : 0 ≤ h) (h1 : h < 10) : q_Sp Γ mX9_heightIn 4 0 0 [q_r Γ 150, q_i r, q_i h] (KC, S) (q_ev (some (q_i (s_he (S 151) r h))) (KC, S)) := by
  show q_Go Γ mX9_heightIn 4 0 0 0 [(0, q_r Γ 150), (1, q_i r), (2, q_i h)] [] (KC, S) (q_ev (some (q_i (s_he (S 151) r h))) (KC, S))
  have pa := s_pt_b ok r0 r1
  refine q_aloadn (pc' := 1) 0 dX9_heightIn_0 rfl rfl ?_
  refine q_iloadn (pc' := 2) 1 dX9_heightIn_1 rfl rfl ?_
  refine q_iconst (pc' := 3) dX9_heightIn_2 rfl ?_
  refine q_callVI (pc' := 6) dX9_heightIn_3 rfl lX9_46 iX9_part kc150 rfl (c_X9_part (by first | assumption | omega) (by first | assumption | omega)) rfl rfl (Nat.le_of_ble_eq_true rfl) (Nat.le_of_ble_eq_true rfl) (Nat.le_of_ble_eq_true rfl) ?_
  refine q_aloadn (pc' := 7) 0 dX9_heightIn_6 rfl rfl ?_
  refine q_iloadn (pc' := 8) 1 dX9_heightIn_7 rfl rfl ?_
  refine q_aloadn (pc' := 9) 0 dX9_heightIn_8 rfl rfl ?_
  refine q_iloadn (pc' := 10) 1 dX9_heightIn_9 rfl rfl ?_
  refine q_iconst (pc' := 11) dX9_heightIn_10 rfl ?_
  refine q_callVI (pc' := 14) dX9_heightIn_11 rfl lX9_46 iX9_part kc150 rfl (c_X9_part (by first | assumption | omega) (by first | assumption | omega)) rfl rfl (Nat.le_of_ble_eq_true rfl) (Nat.le_of_ble_eq_true rfl) (Nat.le_of_ble_eq_true rfl) ?_
  refine q_iloadn (pc' := 15) 2 dX9_heightIn_14 rfl rfl ?_
  refine q_callVI (pc' := 18) dX9_heightIn_15 rfl lX9_69 iX9_tiltIn kc150 rfl (c_X9_tiltIn (by first | assumption | omega) (by first | assumption | omega) (by first | assumption | omega) (by first | assumption | omega) (by first | assumption | omega) (by first | assumption | omega) (by first | assumption | omega)) rfl rfl (Nat.le_of_ble_eq_true rfl) (Nat.le_of_ble_eq_true rfl) (Nat.le_of_ble_eq_true rfl) ?_
  refine q_imul (pc' := 19) dX9_heightIn_18 rfl ?_
  refine p_iret dX9_heightIn_19 rfl ?_ ?_
  · rfl
  · rfl
set_option maxRecDepth 20000 in
set_option maxHeartbeats 4000000 in
theorem c_X9_shadowIn {Γ : q_G} {S : q_S} {a b h : Int} (ok : s_ok (S 151)) (a0 : 0 ≤ a) (a1 : a < 6) (b0 : 0 ≤ b) (b1 : b < 6) (h0 : 0 ≤ h) (h1 : h < 10) : q_Sp Γ mX9_shadowIn 4 0 0 [q_r Γ 150, q_i a, q_i b, q_i h] (KC, S) (q_ev (some (q_i (s_si (S 151) a b h))) (KC, S)) := by
  show q_Go Γ mX9_shadowIn 4 0 0 0 [(0, q_r Γ 150), (1, q_i a), (2, q_i b), (3, q_i h)] [] (KC, S) (q_ev (some (q_i (s_si (S 151) a b h))) (KC, S))
  have pa := s_pt_b ok a0 a1
  have pt := s_tio_b ok h a0 a1
  refine q_aloadn (pc' := 1) 0 dX9_shadowIn_0 rfl rfl ?_
  refine q_iloadn (pc' := 2) 1 dX9_shadowIn_1 rfl rfl ?_
  refine q_aloadn (pc' := 3) 0 dX9_shadowIn_2 rfl rfl ?_
  refine q_iloadn (pc' := 4) 1 dX9_shadowIn_3 rfl rfl ?_
  refine q_aloadn (pc' := 5) 0 dX9_shadowIn_4 rfl rfl ?_
  refine q_iloadn (pc' := 6) 1 dX9_shadowIn_5 rfl rfl ?_
  refine q_iconst (pc' := 7) dX9_shadowIn_6 rfl ?_
  refine q_callVI (pc' := 10) dX9_shadowIn_7 rfl lX9_46 iX9_part kc150 rfl (c_X9_part (by first | assumption | omega) (by first | assumption | omega)) rfl rfl (Nat.le_of_ble_eq_true rfl) (Nat.le_of_ble_eq_true rfl) (Nat.le_of_ble_eq_true rfl) ?_
  refine q_iloadn (pc' := 11) 3 dX9_shadowIn_10 rfl rfl ?_
  refine q_callVI (pc' := 14) dX9_shadowIn_11 rfl lX9_69 iX9_tiltIn kc150 rfl (c_X9_tiltIn (by first | assumption | omega) (by first | assumption | omega) (by first | assumption | omega) (by first | assumption | omega) (by first | assumption | omega) (by first | assumption | omega) (by first | assumption | omega)) rfl rfl (Nat.le_of_ble_eq_true rfl) (Nat.le_of_ble_eq_true rfl) (Nat.le_of_ble_eq_true rfl) ?_
  refine q_iloadn (pc' := 15) 2 dX9_shadowIn_14 rfl rfl ?_
  refine q_iloadn (pc' := 16) 3 dX9_shadowIn_15 rfl rfl ?_
  refine q_callVI (pc' := 19) dX9_shadowIn_16 rfl lX9_54 iX9_shadow kc150 rfl (c_X9_shadow (by first | assumption | omega) (by first | assumption | omega) (by first | assumption | omega) (by first | assumption | omega) (by first | assumption | omega) (by first | assumption | omega) (by first | assumption | omega) (by first | assumption | omega) (by first | assumption | omega)) rfl rfl (Nat.le_of_ble_eq_true rfl) (Nat.le_of_ble_eq_true rfl) (Nat.le_of_ble_eq_true rfl) ?_
  refine p_iret dX9_shadowIn_19 rfl ?_ ?_
  · rfl
  · rfl
set_option maxRecDepth 20000 in
set_option maxHeartbeats 4000000 in
theorem c_X9_far {Γ : q_G} {S : q_S} {a b : Int} (ok : s_ok (S 151)) (a0 : 0 ≤ a) (a1 : a < 6) (b0 : 0 ≤ b) (b1 : b < 6) : q_Sp Γ mX9_far 1 0 0 [q_r Γ 150, q_i a, q_i b] (KC, S) (q_ev (some (q_i (s_far (S 151) a b))) (KC, S)) := by
  show q_Go Γ mX9_far 1 0 0 0 [(0, q_r Γ 150), (1, q_i a), (2, q_i b)] [] (KC, S) (q_ev (some (q_i (s_far (S 151) a b))) (KC, S))
  have pa := s_pt_b ok a0 a1
  have pb := s_pt_b ok b0 b1
  refine q_aloadn (pc' := 1) 0 dX9_far_0 rfl rfl ?_
  refine q_iloadn (pc' := 2) 1 dX9_far_1 rfl rfl ?_
  refine q_iconst (pc' := 3) dX9_far_2 rfl ?_
  refine q_callVI (pc' := 6) dX9_far_3 rfl lX9_46 iX9_part kc150 rfl (c_X9_part (by first | assumption | omega) (by first | assumption | omega)) rfl rfl (Nat.le_of_ble_eq_true rfl) (Nat.le_of_ble_eq_true rfl) (Nat.le_of_ble_eq_true rfl) ?_
  refine q_aloadn (pc' := 7) 0 dX9_far_6 rfl rfl ?_
  refine q_iloadn (pc' := 8) 2 dX9_far_7 rfl rfl ?_
  refine q_iconst (pc' := 9) dX9_far_8 rfl ?_
  refine q_callVI (pc' := 12) dX9_far_9 rfl lX9_46 iX9_part kc150 rfl (c_X9_part (by first | assumption | omega) (by first | assumption | omega)) rfl rfl (Nat.le_of_ble_eq_true rfl) (Nat.le_of_ble_eq_true rfl) (Nat.le_of_ble_eq_true rfl) ?_
  refine q_isub (pc' := 13) dX9_far_12 rfl ?_
  refine q_istoren (pc' := 14) (L' := [(3, q_i ((s_pt (S 151) a 0) - (s_pt (S 151) b 0))), (0, q_r Γ 150), (1, q_i a), (2, q_i b)]) dX9_far_13 rfl rfl (by decide) rfl ?_
  refine q_iloadn (pc' := 15) 0 dX9_far_14 rfl rfl ?_
  refine q_if_ge (tgt := 23) (pc' := 18) dX9_far_15 rfl rfl (by first | assumption | omega) (fun qc_15 => ?_) (fun qc_15 => ?_)
  · refine q_iloadn (pc' := 24) 0 dX9_far_23 rfl rfl ?_
    refine p_iret dX9_far_24 rfl ?_ ?_
    · unfold s_far; omega
    · rfl
  · refine q_iloadn (pc' := 19) 0 dX9_far_18 rfl rfl ?_
    refine q_ineg (pc' := 20) dX9_far_19 rfl ?_
    refine q_goto (pc' := 24) dX9_far_20 rfl ?_
    refine p_iret dX9_far_24 rfl ?_ ?_
    · unfold s_far; omega
    · rfl
set_option maxRecDepth 20000 in
set_option maxHeartbeats 4000000 in
theorem c_X9_blamed {Γ : q_G} {S : q_S} {r h : Int} (ok : s_ok (S 151)) (r0 : 0 ≤ r) (r1 : r < 6) (h0 : 0 ≤ h) (h1 : h < 10) : q_Sp Γ mX9_blamed 5 0 0 [q_r Γ 150, q_i r, q_i h] (KC, S) (q_ev (some (q_i (s_bl (S 151) r h))) (KC, S)) := by
  show q_Go Γ mX9_blamed 5 0 0 0 [(0, q_r Γ 150), (1, q_i r), (2, q_i h)] [] (KC, S) (q_ev (some (q_i (s_bl (S 151) r h))) (KC, S))
  have rw0 := s_rows_b ok
  refine q_bipush (pc' := 2) dX9_blamed_0 rfl rfl ?_
  refine q_istoren (pc' := 3) (L' := [(3, q_i (-6)), (0, q_r Γ 150), (1, q_i r), (2, q_i h)]) dX9_blamed_2 rfl rfl (by decide) rfl ?_
  refine q_iconst (pc' := 4) dX9_blamed_3 rfl ?_
  refine q_istore (pc' := 6) (L' := [(4, q_i 0), (3, q_i (-6)), (0, q_r Γ 150), (1, q_i r), (2, q_i h)]) dX9_blamed_4 rfl (by decide) rfl ?_
  refine q_iconst (pc' := 7) dX9_blamed_6 rfl ?_
  refine q_istore (pc' := 9) (L' := [(5, q_i 0), (4, q_i 0), (3, q_i (-6)), (0, q_r Γ 150), (1, q_i r), (2, q_i h)]) dX9_blamed_7 rfl (by decide) rfl ?_
  have qlp_9 : ∀ (qn_9 : Nat) (best most k : Int), (0 ≤ k) → (k ≤ S 151 0) → (best = (s_bN (S 151) r h k.toNat).1) → (most = (s_bN (S 151) r h k.toNat).2) → ((6 - k).toNat) = qn_9 → q_Go Γ mX9_blamed 5 0 0 9 [(0, q_r Γ 150), (1, q_i r), (2, q_i h), (3, q_i best), (4, q_i most), (5, q_i k)] [] (KC, S) (q_ev (some (q_i (s_bl (S 151) r h))) (KC, S)) := by
    intro qn_9
    induction qn_9 using Nat.strongRecOn with
    | ind qn_9 qih_9 =>
      intro best most k qa_9_0 qa_9_1 qa_9_2 qa_9_3 qhn_9
      subst qhn_9
      have bb := s_bN_b ok r0 r1 h0 h1 k.toNat (by omega)
      rw [← qa_9_2, ← qa_9_3] at bb
      refine q_iload (pc' := 11) 5 dX9_blamed_9 rfl rfl ?_
      refine q_aloadn (pc' := 12) 0 dX9_blamed_11 rfl rfl ?_
      refine p_getR (pc' := 15) (f := 151) dX9_blamed_12 rfl fX9_7 kc150 rfl ?_
      refine q_iconst (pc' := 16) dX9_blamed_15 rfl ?_
      refine p_iald (pc' := 17) dX9_blamed_16 rfl kc151 (by first | assumption | omega) (by first | assumption | omega) (by decide) (fun qy_16 eqy_16 rqy_16 => ?_)
      refine q_icmp_ge (tgt := 114) (pc' := 20) dX9_blamed_17 rfl rfl (by first | assumption | omega) (by first | assumption | omega) (fun qc_17 => ?_) (fun qc_17 => ?_)
      · refine q_iloadn (pc' := 115) 3 dX9_blamed_114 rfl rfl ?_
        refine p_iret dX9_blamed_115 rfl ?_ ?_
        · rw [qa_9_2, show k = S 151 0 by omega]; rfl
        · rfl
      · refine q_iload (pc' := 22) 5 dX9_blamed_20 rfl rfl ?_
        refine q_iloadn (pc' := 23) 1 dX9_blamed_22 rfl rfl ?_
        refine q_icmp_ne (tgt := 30) (pc' := 26) dX9_blamed_23 rfl rfl (by first | assumption | omega) (by first | assumption | omega) (fun qc_23 => ?_) (fun qc_23 => ?_)
        · have b1 := s_si_b ok (a := k) (by omega) (by omega) r0 r1 h0 h1
          refine q_aloadn (pc' := 31) 0 dX9_blamed_30 rfl rfl ?_
          refine q_iload (pc' := 33) 5 dX9_blamed_31 rfl rfl ?_
          refine q_iloadn (pc' := 34) 1 dX9_blamed_33 rfl rfl ?_
          refine q_iloadn (pc' := 35) 2 dX9_blamed_34 rfl rfl ?_
          refine q_callVI (pc' := 38) dX9_blamed_35 rfl lX9_72 iX9_shadowIn kc150 rfl (c_X9_shadowIn (by first | assumption | omega) (by first | assumption | omega) (by first | assumption | omega) (by first | assumption | omega) (by first | assumption | omega) (by first | assumption | omega) (by first | assumption | omega)) rfl rfl (Nat.le_of_ble_eq_true rfl) (Nat.le_of_ble_eq_true rfl) (Nat.le_of_ble_eq_true rfl) ?_
          have hu : (s_si (S 151) k r h) = s_up (S 151) r h k := by first | exact (if_neg qc_23).symm | exact (if_pos qc_23).symm
          refine q_istore (pc' := 40) (L' := [(6, q_i (s_si (S 151) k r h)), (0, q_r Γ 150), (1, q_i r), (2, q_i h), (3, q_i best), (4, q_i most), (5, q_i k)]) dX9_blamed_38 rfl (by decide) rfl ?_
          refine q_iload (pc' := 42) 0 dX9_blamed_40 rfl rfl ?_
          refine q_iload (pc' := 44) 5 dX9_blamed_42 rfl rfl ?_
          refine q_icmp_gt (tgt := 75) (pc' := 47) dX9_blamed_44 rfl rfl (by first | assumption | omega) (by first | assumption | omega) (fun qc_44 => ?_) (fun qc_44 => ?_)
          · refine q_iconst (pc' := 76) dX9_blamed_75 rfl ?_
            refine q_goto (pc' := 80) dX9_blamed_76 rfl ?_
            refine q_istore (pc' := 82) (L' := [(7, q_i 1), (6, q_i (s_si (S 151) k r h)), (0, q_r Γ 150), (1, q_i r), (2, q_i h), (3, q_i best), (4, q_i most), (5, q_i k)]) dX9_blamed_80 rfl (by decide) rfl ?_
            refine q_iload (pc' := 84) 0 dX9_blamed_82 rfl rfl ?_
            refine q_if_eq (tgt := 92) (pc' := 87) dX9_blamed_84 rfl rfl (by decide) (fun qc_84 => absurd qc_84 (by decide)) (fun qc_84 => ?_)
            refine q_iload (pc' := 89) 7 dX9_blamed_87 rfl rfl ?_
            refine q_goto (pc' := 93) dX9_blamed_89 rfl ?_
            refine q_istoren (pc' := 94) (L' := [(3, q_i k), (7, q_i 1), (6, q_i (s_si (S 151) k r h)), (0, q_r Γ 150), (1, q_i r), (2, q_i h), (4, q_i most), (5, q_i k)]) dX9_blamed_93 rfl rfl (by decide) rfl ?_
            refine q_iload (pc' := 96) 1 dX9_blamed_94 rfl rfl ?_
            refine q_if_eq (tgt := 104) (pc' := 99) dX9_blamed_96 rfl rfl (by decide) (fun qc_96 => absurd qc_96 (by decide)) (fun qc_96 => ?_)
            refine q_iload (pc' := 101) 2 dX9_blamed_99 rfl rfl ?_
            refine q_goto (pc' := 106) dX9_blamed_101 rfl ?_
            refine q_istore (pc' := 108) (L' := [(4, q_i (s_si (S 151) k r h)), (3, q_i k), (7, q_i 1), (6, q_i (s_si (S 151) k r h)), (0, q_r Γ 150), (1, q_i r), (2, q_i h), (5, q_i k)]) dX9_blamed_106 rfl (by decide) rfl ?_
            refine q_iinc (pc' := 111) 7 (L' := [(5, q_i (k + 1)), (4, q_i (s_si (S 151) k r h)), (3, q_i k), (7, q_i 1), (6, q_i (s_si (S 151) k r h)), (0, q_r Γ 150), (1, q_i r), (2, q_i h)]) dX9_blamed_108 rfl rfl (by decide) rfl ?_
            refine q_goto (pc' := 9) dX9_blamed_111 rfl ?_
            refine p_sub [5, 6, 7, 2, 1, 0] rfl ?_
            exact qih_9 _ (by omega) _ _ _ (by first | assumption | omega) (by first | assumption | omega) (by rw [s_bN_s (by omega), ← qa_9_2, ← qa_9_3, ← hu]; first | exact (q_if_t (by unfold s_more; omega)).symm | exact (q_if_f (by unfold s_more; omega)).symm) (by rw [s_bN_s (by omega), ← qa_9_2, ← qa_9_3, ← hu]; first | exact (q_if_t (by unfold s_more; omega)).symm | exact (q_if_f (by unfold s_more; omega)).symm) rfl
          · refine q_iload (pc' := 49) 0 dX9_blamed_47 rfl rfl ?_
            refine q_if_le (tgt := 79) (pc' := 52) dX9_blamed_49 rfl rfl (by first | assumption | omega) (fun qc_49 => ?_) (fun qc_49 => ?_)
            · refine q_iconst (pc' := 80) dX9_blamed_79 rfl ?_
              refine q_istore (pc' := 82) (L' := [(7, q_i 0), (6, q_i (s_si (S 151) k r h)), (0, q_r Γ 150), (1, q_i r), (2, q_i h), (3, q_i best), (4, q_i most), (5, q_i k)]) dX9_blamed_80 rfl (by decide) rfl ?_
              refine q_iload (pc' := 84) 0 dX9_blamed_82 rfl rfl ?_
              refine q_if_eq (tgt := 92) (pc' := 87) dX9_blamed_84 rfl rfl (by decide) (fun qc_84_1 => ?_) (fun qc_84_1 => absurd qc_84_1 (by decide))
              refine q_iloadn (pc' := 93) 5 dX9_blamed_92 rfl rfl ?_
              refine q_istoren (pc' := 94) (L' := [(3, q_i best), (7, q_i 0), (6, q_i (s_si (S 151) k r h)), (0, q_r Γ 150), (1, q_i r), (2, q_i h), (4, q_i most), (5, q_i k)]) dX9_blamed_93 rfl rfl (by decide) rfl ?_
              refine q_iload (pc' := 96) 1 dX9_blamed_94 rfl rfl ?_
              refine q_if_eq (tgt := 104) (pc' := 99) dX9_blamed_96 rfl rfl (by decide) (fun qc_96_1 => ?_) (fun qc_96_1 => absurd qc_96_1 (by decide))
              refine q_iload (pc' := 106) 6 dX9_blamed_104 rfl rfl ?_
              refine q_istore (pc' := 108) (L' := [(4, q_i most), (3, q_i best), (7, q_i 0), (6, q_i (s_si (S 151) k r h)), (0, q_r Γ 150), (1, q_i r), (2, q_i h), (5, q_i k)]) dX9_blamed_106 rfl (by decide) rfl ?_
              refine q_iinc (pc' := 111) 7 (L' := [(5, q_i (k + 1)), (4, q_i most), (3, q_i best), (7, q_i 0), (6, q_i (s_si (S 151) k r h)), (0, q_r Γ 150), (1, q_i r), (2, q_i h)]) dX9_blamed_108 rfl rfl (by decide) rfl ?_
              refine q_goto (pc' := 9) dX9_blamed_111 rfl ?_
              refine p_sub [5, 6, 7, 2, 1, 0] rfl ?_
              exact qih_9 _ (by omega) _ _ _ (by first | assumption | omega) (by first | assumption | omega) (by rw [s_bN_s (by omega), ← qa_9_2, ← qa_9_3, ← hu]; first | exact (q_if_t (by unfold s_more; omega)).symm | exact (q_if_f (by unfold s_more; omega)).symm) (by rw [s_bN_s (by omega), ← qa_9_2, ← qa_9_3, ← hu]; first | exact (q_if_t (by unfold s_more; omega)).symm | exact (q_if_f (by unfold s_more; omega)).symm) rfl
            · refine q_iload (pc' := 54) 0 dX9_blamed_52 rfl rfl ?_
              refine q_iload (pc' := 56) 5 dX9_blamed_54 rfl rfl ?_
              refine q_icmp_ne (tgt := 79) (pc' := 59) dX9_blamed_56 rfl rfl (by first | assumption | omega) (by first | assumption | omega) (fun qc_56 => ?_) (fun qc_56 => ?_)
              · refine q_iconst (pc' := 80) dX9_blamed_79 rfl ?_
                refine q_istore (pc' := 82) (L' := [(7, q_i 0), (6, q_i (s_si (S 151) k r h)), (0, q_r Γ 150), (1, q_i r), (2, q_i h), (3, q_i best), (4, q_i most), (5, q_i k)]) dX9_blamed_80 rfl (by decide) rfl ?_
                refine q_iload (pc' := 84) 0 dX9_blamed_82 rfl rfl ?_
                refine q_if_eq (tgt := 92) (pc' := 87) dX9_blamed_84 rfl rfl (by decide) (fun qc_84_2 => ?_) (fun qc_84_2 => absurd qc_84_2 (by decide))
                refine q_iloadn (pc' := 93) 5 dX9_blamed_92 rfl rfl ?_
                refine q_istoren (pc' := 94) (L' := [(3, q_i best), (7, q_i 0), (6, q_i (s_si (S 151) k r h)), (0, q_r Γ 150), (1, q_i r), (2, q_i h), (4, q_i most), (5, q_i k)]) dX9_blamed_93 rfl rfl (by decide) rfl ?_
                refine q_iload (pc' := 96) 1 dX9_blamed_94 rfl rfl ?_
                refine q_if_eq (tgt := 104) (pc' := 99) dX9_blamed_96 rfl rfl (by decide) (fun qc_96_2 => ?_) (fun qc_96_2 => absurd qc_96_2 (by decide))
                refine q_iload (pc' := 106) 6 dX9_blamed_104 rfl rfl ?_
                refine q_istore (pc' := 108) (L' := [(4, q_i most), (3, q_i best), (7, q_i 0), (6, q_i (s_si (S 151) k r h)), (0, q_r Γ 150), (1, q_i r), (2, q_i h), (5, q_i k)]) dX9_blamed_106 rfl (by decide) rfl ?_
                refine q_iinc (pc' := 111) 7 (L' := [(5, q_i (k + 1)), (4, q_i most), (3, q_i best), (7, q_i 0), (6, q_i (s_si (S 151) k r h)), (0, q_r Γ 150), (1, q_i r), (2, q_i h)]) dX9_blamed_108 rfl rfl (by decide) rfl ?_
                refine q_goto (pc' := 9) dX9_blamed_111 rfl ?_
                refine p_sub [5, 6, 7, 2, 1, 0] rfl ?_
                exact qih_9 _ (by omega) _ _ _ (by first | assumption | omega) (by first | assumption | omega) (by rw [s_bN_s (by omega), ← qa_9_2, ← qa_9_3, ← hu]; first | exact (q_if_t (by unfold s_more; omega)).symm | exact (q_if_f (by unfold s_more; omega)).symm) (by rw [s_bN_s (by omega), ← qa_9_2, ← qa_9_3, ← hu]; first | exact (q_if_t (by unfold s_more; omega)).symm | exact (q_if_f (by unfold s_more; omega)).symm) rfl
              · have f1 := s_far_b ok (a := k) (b := r) (by omega) (by omega) r0 r1
                have f2 := s_far_b ok (a := best) (b := r) (by omega) (by omega) r0 r1
                refine q_aloadn (pc' := 60) 1 dX9_blamed_59 rfl rfl ?_
                refine q_iload (pc' := 62) 6 dX9_blamed_60 rfl rfl ?_
                refine q_iloadn (pc' := 63) 2 dX9_blamed_62 rfl rfl ?_
                refine q_callVI (pc' := 66) dX9_blamed_63 rfl lX9_75 iX9_far kc150 rfl (c_X9_far (by first | assumption | omega) (by first | assumption | omega) (by first | assumption | omega) (by first | assumption | omega) (by first | assumption | omega)) rfl rfl (Nat.le_of_ble_eq_true rfl) (Nat.le_of_ble_eq_true rfl) (Nat.le_of_ble_eq_true rfl) ?_
                refine q_aloadn (pc' := 67) 1 dX9_blamed_66 rfl rfl ?_
                refine q_iloadn (pc' := 68) 4 dX9_blamed_67 rfl rfl ?_
                refine q_iloadn (pc' := 69) 2 dX9_blamed_68 rfl rfl ?_
                refine q_callVI (pc' := 72) dX9_blamed_69 rfl lX9_75 iX9_far kc150 rfl (c_X9_far (by first | assumption | omega) (by first | assumption | omega) (by first | assumption | omega) (by first | assumption | omega) (by first | assumption | omega)) rfl rfl (Nat.le_of_ble_eq_true rfl) (Nat.le_of_ble_eq_true rfl) (Nat.le_of_ble_eq_true rfl) ?_
                refine q_icmp_ge (tgt := 79) (pc' := 75) dX9_blamed_72 rfl rfl (by first | assumption | omega) (by first | assumption | omega) (fun qc_72 => ?_) (fun qc_72 => ?_)
                · refine q_iconst (pc' := 80) dX9_blamed_79 rfl ?_
                  refine q_istore (pc' := 82) (L' := [(7, q_i 0), (6, q_i (s_si (S 151) k r h)), (0, q_r Γ 150), (1, q_i r), (2, q_i h), (3, q_i best), (4, q_i most), (5, q_i k)]) dX9_blamed_80 rfl (by decide) rfl ?_
                  refine q_iload (pc' := 84) 0 dX9_blamed_82 rfl rfl ?_
                  refine q_if_eq (tgt := 92) (pc' := 87) dX9_blamed_84 rfl rfl (by decide) (fun qc_84_3 => ?_) (fun qc_84_3 => absurd qc_84_3 (by decide))
                  refine q_iloadn (pc' := 93) 5 dX9_blamed_92 rfl rfl ?_
                  refine q_istoren (pc' := 94) (L' := [(3, q_i best), (7, q_i 0), (6, q_i (s_si (S 151) k r h)), (0, q_r Γ 150), (1, q_i r), (2, q_i h), (4, q_i most), (5, q_i k)]) dX9_blamed_93 rfl rfl (by decide) rfl ?_
                  refine q_iload (pc' := 96) 1 dX9_blamed_94 rfl rfl ?_
                  refine q_if_eq (tgt := 104) (pc' := 99) dX9_blamed_96 rfl rfl (by decide) (fun qc_96_3 => ?_) (fun qc_96_3 => absurd qc_96_3 (by decide))
                  refine q_iload (pc' := 106) 6 dX9_blamed_104 rfl rfl ?_
                  refine q_istore (pc' := 108) (L' := [(4, q_i most), (3, q_i best), (7, q_i 0), (6, q_i (s_si (S 151) k r h)), (0, q_r Γ 150), (1, q_i r), (2, q_i h), (5, q_i k)]) dX9_blamed_106 rfl (by decide) rfl ?_
                  refine q_iinc (pc' := 111) 7 (L' := [(5, q_i (k + 1)), (4, q_i most), (3, q_i best), (7, q_i 0), (6, q_i (s_si (S 151) k r h)), (0, q_r Γ 150), (1, q_i r), (2, q_i h)]) dX9_blamed_108 rfl rfl (by decide) rfl ?_
                  refine q_goto (pc' := 9) dX9_blamed_111 rfl ?_
                  refine p_sub [5, 6, 7, 2, 1, 0] rfl ?_
                  exact qih_9 _ (by omega) _ _ _ (by first | assumption | omega) (by first | assumption | omega) (by rw [s_bN_s (by omega), ← qa_9_2, ← qa_9_3, ← hu]; first | exact (q_if_t (by unfold s_more; omega)).symm | exact (q_if_f (by unfold s_more; omega)).symm) (by rw [s_bN_s (by omega), ← qa_9_2, ← qa_9_3, ← hu]; first | exact (q_if_t (by unfold s_more; omega)).symm | exact (q_if_f (by unfold s_more; omega)).symm) rfl
                · refine q_iconst (pc' := 76) dX9_blamed_75 rfl ?_
                  refine q_goto (pc' := 80) dX9_blamed_76 rfl ?_
                  refine q_istore (pc' := 82) (L' := [(7, q_i 1), (6, q_i (s_si (S 151) k r h)), (0, q_r Γ 150), (1, q_i r), (2, q_i h), (3, q_i best), (4, q_i most), (5, q_i k)]) dX9_blamed_80 rfl (by decide) rfl ?_
                  refine q_iload (pc' := 84) 0 dX9_blamed_82 rfl rfl ?_
                  refine q_if_eq (tgt := 92) (pc' := 87) dX9_blamed_84 rfl rfl (by decide) (fun qc_84_4 => absurd qc_84_4 (by decide)) (fun qc_84_4 => ?_)
                  refine q_iload (pc' := 89) 7 dX9_blamed_87 rfl rfl ?_
                  refine q_goto (pc' := 93) dX9_blamed_89 rfl ?_
                  refine q_istoren (pc' := 94) (L' := [(3, q_i k), (7, q_i 1), (6, q_i (s_si (S 151) k r h)), (0, q_r Γ 150), (1, q_i r), (2, q_i h), (4, q_i most), (5, q_i k)]) dX9_blamed_93 rfl rfl (by decide) rfl ?_
                  refine q_iload (pc' := 96) 1 dX9_blamed_94 rfl rfl ?_
                  refine q_if_eq (tgt := 104) (pc' := 99) dX9_blamed_96 rfl rfl (by decide) (fun qc_96_4 => absurd qc_96_4 (by decide)) (fun qc_96_4 => ?_)
                  refine q_iload (pc' := 101) 2 dX9_blamed_99 rfl rfl ?_
                  refine q_goto (pc' := 106) dX9_blamed_101 rfl ?_
                  refine q_istore (pc' := 108) (L' := [(4, q_i (s_si (S 151) k r h)), (3, q_i k), (7, q_i 1), (6, q_i (s_si (S 151) k r h)), (0, q_r Γ 150), (1, q_i r), (2, q_i h), (5, q_i k)]) dX9_blamed_106 rfl (by decide) rfl ?_
                  refine q_iinc (pc' := 111) 7 (L' := [(5, q_i (k + 1)), (4, q_i (s_si (S 151) k r h)), (3, q_i k), (7, q_i 1), (6, q_i (s_si (S 151) k r h)), (0, q_r Γ 150), (1, q_i r), (2, q_i h)]) dX9_blamed_108 rfl rfl (by decide) rfl ?_
                  refine q_goto (pc' := 9) dX9_blamed_111 rfl ?_
                  refine p_sub [5, 6, 7, 2, 1, 0] rfl ?_
                  exact qih_9 _ (by omega) _ _ _ (by first | assumption | omega) (by first | assumption | omega) (by rw [s_bN_s (by omega), ← qa_9_2, ← qa_9_3, ← hu]; first | exact (q_if_t (by unfold s_more; omega)).symm | exact (q_if_f (by unfold s_more; omega)).symm) (by rw [s_bN_s (by omega), ← qa_9_2, ← qa_9_3, ← hu]; first | exact (q_if_t (by unfold s_more; omega)).symm | exact (q_if_f (by unfold s_more; omega)).symm) rfl
        · refine q_iconst (pc' := 27) dX9_blamed_26 rfl ?_
          refine q_goto (pc' := 38) dX9_blamed_27 rfl ?_
          have hu : 0 = s_up (S 151) r h k := by first | exact (if_neg qc_23).symm | exact (if_pos qc_23).symm
          refine q_istore (pc' := 40) (L' := [(6, q_i 0), (0, q_r Γ 150), (1, q_i r), (2, q_i h), (3, q_i best), (4, q_i most), (5, q_i k)]) dX9_blamed_38 rfl (by decide) rfl ?_
          refine q_iload (pc' := 42) 0 dX9_blamed_40 rfl rfl ?_
          refine q_iload (pc' := 44) 5 dX9_blamed_42 rfl rfl ?_
          refine q_icmp_gt (tgt := 75) (pc' := 47) dX9_blamed_44 rfl rfl (by decide) (by first | assumption | omega) (fun qc_44_1 => ?_) (fun qc_44_1 => ?_)
          · refine q_iconst (pc' := 76) dX9_blamed_75 rfl ?_
            refine q_goto (pc' := 80) dX9_blamed_76 rfl ?_
            refine q_istore (pc' := 82) (L' := [(7, q_i 1), (6, q_i 0), (0, q_r Γ 150), (1, q_i r), (2, q_i h), (3, q_i best), (4, q_i most), (5, q_i k)]) dX9_blamed_80 rfl (by decide) rfl ?_
            refine q_iload (pc' := 84) 0 dX9_blamed_82 rfl rfl ?_
            refine q_if_eq (tgt := 92) (pc' := 87) dX9_blamed_84 rfl rfl (by decide) (fun qc_84_5 => absurd qc_84_5 (by decide)) (fun qc_84_5 => ?_)
            refine q_iload (pc' := 89) 7 dX9_blamed_87 rfl rfl ?_
            refine q_goto (pc' := 93) dX9_blamed_89 rfl ?_
            refine q_istoren (pc' := 94) (L' := [(3, q_i k), (7, q_i 1), (6, q_i 0), (0, q_r Γ 150), (1, q_i r), (2, q_i h), (4, q_i most), (5, q_i k)]) dX9_blamed_93 rfl rfl (by decide) rfl ?_
            refine q_iload (pc' := 96) 1 dX9_blamed_94 rfl rfl ?_
            refine q_if_eq (tgt := 104) (pc' := 99) dX9_blamed_96 rfl rfl (by decide) (fun qc_96_5 => absurd qc_96_5 (by decide)) (fun qc_96_5 => ?_)
            refine q_iload (pc' := 101) 2 dX9_blamed_99 rfl rfl ?_
            refine q_goto (pc' := 106) dX9_blamed_101 rfl ?_
            refine q_istore (pc' := 108) (L' := [(4, q_i 0), (3, q_i k), (7, q_i 1), (6, q_i 0), (0, q_r Γ 150), (1, q_i r), (2, q_i h), (5, q_i k)]) dX9_blamed_106 rfl (by decide) rfl ?_
            refine q_iinc (pc' := 111) 7 (L' := [(5, q_i (k + 1)), (4, q_i 0), (3, q_i k), (7, q_i 1), (6, q_i 0), (0, q_r Γ 150), (1, q_i r), (2, q_i h)]) dX9_blamed_108 rfl rfl (by decide) rfl ?_
            refine q_goto (pc' := 9) dX9_blamed_111 rfl ?_
            refine p_sub [5, 6, 7, 2, 1, 0] rfl ?_
            exact qih_9 _ (by omega) _ _ _ (by first | assumption | omega) (by first | assumption | omega) (by rw [s_bN_s (by omega), ← qa_9_2, ← qa_9_3, ← hu]; first | exact (q_if_t (by unfold s_more; omega)).symm | exact (q_if_f (by unfold s_more; omega)).symm) (by rw [s_bN_s (by omega), ← qa_9_2, ← qa_9_3, ← hu]; first | exact (q_if_t (by unfold s_more; omega)).symm | exact (q_if_f (by unfold s_more; omega)).symm) rfl
          · refine q_iload (pc' := 49) 0 dX9_blamed_47 rfl rfl ?_
            refine q_if_le (tgt := 79) (pc' := 52) dX9_blamed_49 rfl rfl (by decide) (fun qc_49_1 => ?_) (fun qc_49_1 => absurd qc_49_1 (by decide))
            refine q_iconst (pc' := 80) dX9_blamed_79 rfl ?_
            refine q_istore (pc' := 82) (L' := [(7, q_i 0), (6, q_i 0), (0, q_r Γ 150), (1, q_i r), (2, q_i h), (3, q_i best), (4, q_i most), (5, q_i k)]) dX9_blamed_80 rfl (by decide) rfl ?_
            refine q_iload (pc' := 84) 0 dX9_blamed_82 rfl rfl ?_
            refine q_if_eq (tgt := 92) (pc' := 87) dX9_blamed_84 rfl rfl (by decide) (fun qc_84_6 => ?_) (fun qc_84_6 => absurd qc_84_6 (by decide))
            refine q_iloadn (pc' := 93) 5 dX9_blamed_92 rfl rfl ?_
            refine q_istoren (pc' := 94) (L' := [(3, q_i best), (7, q_i 0), (6, q_i 0), (0, q_r Γ 150), (1, q_i r), (2, q_i h), (4, q_i most), (5, q_i k)]) dX9_blamed_93 rfl rfl (by decide) rfl ?_
            refine q_iload (pc' := 96) 1 dX9_blamed_94 rfl rfl ?_
            refine q_if_eq (tgt := 104) (pc' := 99) dX9_blamed_96 rfl rfl (by decide) (fun qc_96_6 => ?_) (fun qc_96_6 => absurd qc_96_6 (by decide))
            refine q_iload (pc' := 106) 6 dX9_blamed_104 rfl rfl ?_
            refine q_istore (pc' := 108) (L' := [(4, q_i most), (3, q_i best), (7, q_i 0), (6, q_i 0), (0, q_r Γ 150), (1, q_i r), (2, q_i h), (5, q_i k)]) dX9_blamed_106 rfl (by decide) rfl ?_
            refine q_iinc (pc' := 111) 7 (L' := [(5, q_i (k + 1)), (4, q_i most), (3, q_i best), (7, q_i 0), (6, q_i 0), (0, q_r Γ 150), (1, q_i r), (2, q_i h)]) dX9_blamed_108 rfl rfl (by decide) rfl ?_
            refine q_goto (pc' := 9) dX9_blamed_111 rfl ?_
            refine p_sub [5, 6, 7, 2, 1, 0] rfl ?_
            exact qih_9 _ (by omega) _ _ _ (by first | assumption | omega) (by first | assumption | omega) (by rw [s_bN_s (by omega), ← qa_9_2, ← qa_9_3, ← hu]; first | exact (q_if_t (by unfold s_more; omega)).symm | exact (q_if_f (by unfold s_more; omega)).symm) (by rw [s_bN_s (by omega), ← qa_9_2, ← qa_9_3, ← hu]; first | exact (q_if_t (by unfold s_more; omega)).symm | exact (q_if_f (by unfold s_more; omega)).symm) rfl
  refine p_sub [3, 4, 5, 2, 1, 0] rfl ?_
  exact qlp_9 _ _ _ _ (by first | assumption | omega) (by first | assumption | omega) (by rfl) (by rfl) rfl
set_option maxRecDepth 20000 in
set_option maxHeartbeats 4000000 in
theorem c_X9_shadeOf {Γ : q_G} {S : q_S} {r h : Int} (ok : s_ok (S 151)) (r0 : 0 ≤ r) (r1 : r < 6) (h0 : 0 ≤ h) (h1 : h < 10) : q_Sp Γ mX9_shadeOf 6 0 0 [q_r Γ 150, q_i r, q_i h] (KC, S) (q_ev (some (q_i (s_shd (S 151) r h))) (KC, S)) := by
  show q_Go Γ mX9_shadeOf 6 0 0 0 [(0, q_r Γ 150), (1, q_i r), (2, q_i h)] [] (KC, S) (q_ev (some (q_i (s_shd (S 151) r h))) (KC, S))
  have rw0 := s_rows_b ok
  have bb := s_bl_b ok r0 r1 h0 h1
  have hb := s_he_b ok h r0 r1
  refine q_aloadn (pc' := 1) 0 dX9_shadeOf_0 rfl rfl ?_
  refine q_iloadn (pc' := 2) 1 dX9_shadeOf_1 rfl rfl ?_
  refine q_iloadn (pc' := 3) 2 dX9_shadeOf_2 rfl rfl ?_
  refine q_callVI (pc' := 6) dX9_shadeOf_3 rfl lX9_78 iX9_blamed kc150 rfl (c_X9_blamed (by first | assumption | omega) (by first | assumption | omega) (by first | assumption | omega) (by first | assumption | omega) (by first | assumption | omega)) rfl rfl (Nat.le_of_ble_eq_true rfl) (Nat.le_of_ble_eq_true rfl) (Nat.le_of_ble_eq_true rfl) ?_
  refine q_istoren (pc' := 7) (L' := [(3, q_i (s_bl (S 151) r h)), (0, q_r Γ 150), (1, q_i r), (2, q_i h)]) dX9_shadeOf_6 rfl rfl (by decide) rfl ?_
  refine q_iloadn (pc' := 8) 0 dX9_shadeOf_7 rfl rfl ?_
  refine q_bipush (pc' := 10) dX9_shadeOf_8 rfl rfl ?_
  refine q_icmp_ne (tgt := 17) (pc' := 13) dX9_shadeOf_10 rfl rfl (by first | assumption | omega) (by decide) (fun qc_10 => ?_) (fun qc_10 => ?_)
  · have sb := s_si_b ok (a := s_bl (S 151) r h) (by omega) (by omega) r0 r1 h0 h1
    refine q_aloadn (pc' := 18) 1 dX9_shadeOf_17 rfl rfl ?_
    refine q_iloadn (pc' := 19) 0 dX9_shadeOf_18 rfl rfl ?_
    refine q_iloadn (pc' := 20) 2 dX9_shadeOf_19 rfl rfl ?_
    refine q_iloadn (pc' := 21) 3 dX9_shadeOf_20 rfl rfl ?_
    refine q_callVI (pc' := 24) dX9_shadeOf_21 rfl lX9_72 iX9_shadowIn kc150 rfl (c_X9_shadowIn (by first | assumption | omega) (by first | assumption | omega) (by first | assumption | omega) (by first | assumption | omega) (by first | assumption | omega) (by first | assumption | omega) (by first | assumption | omega)) rfl rfl (Nat.le_of_ble_eq_true rfl) (Nat.le_of_ble_eq_true rfl) (Nat.le_of_ble_eq_true rfl) ?_
    refine q_istore (pc' := 26) (L' := [(4, q_i (s_si (S 151) (s_bl (S 151) r h) r h)), (3, q_i (s_bl (S 151) r h)), (0, q_r Γ 150), (1, q_i r), (2, q_i h)]) dX9_shadeOf_24 rfl (by decide) rfl ?_
    refine q_aloadn (pc' := 27) 2 dX9_shadeOf_26 rfl rfl ?_
    refine q_iloadn (pc' := 28) 3 dX9_shadeOf_27 rfl rfl ?_
    refine q_iloadn (pc' := 29) 4 dX9_shadeOf_28 rfl rfl ?_
    refine q_callVI (pc' := 32) dX9_shadeOf_29 rfl lX9_81 iX9_heightIn kc150 rfl (c_X9_heightIn (by first | assumption | omega) (by first | assumption | omega) (by first | assumption | omega) (by first | assumption | omega) (by first | assumption | omega)) rfl rfl (Nat.le_of_ble_eq_true rfl) (Nat.le_of_ble_eq_true rfl) (Nat.le_of_ble_eq_true rfl) ?_
    refine q_istore (pc' := 34) (L' := [(5, q_i (s_he (S 151) r h)), (4, q_i (s_si (S 151) (s_bl (S 151) r h) r h)), (3, q_i (s_bl (S 151) r h)), (0, q_r Γ 150), (1, q_i r), (2, q_i h)]) dX9_shadeOf_32 rfl (by decide) rfl ?_
    refine q_iload (pc' := 36) 1 dX9_shadeOf_34 rfl rfl ?_
    refine q_iload (pc' := 38) 0 dX9_shadeOf_36 rfl rfl ?_
    refine q_icmp_ge (tgt := 46) (pc' := 41) dX9_shadeOf_38 rfl rfl (by first | assumption | omega) (by first | assumption | omega) (fun qc_38 => ?_) (fun qc_38 => ?_)
    · refine q_iload (pc' := 48) 0 dX9_shadeOf_46 rfl rfl ?_
      refine p_iret dX9_shadeOf_48 rfl ?_ ?_
      · unfold s_shd; omega
      · rfl
    · refine q_iload (pc' := 43) 1 dX9_shadeOf_41 rfl rfl ?_
      refine q_goto (pc' := 48) dX9_shadeOf_43 rfl ?_
      refine p_iret dX9_shadeOf_48 rfl ?_ ?_
      · unfold s_shd; omega
      · rfl
  · refine q_iconst (pc' := 14) dX9_shadeOf_13 rfl ?_
    refine q_goto (pc' := 24) dX9_shadeOf_14 rfl ?_
    refine q_istore (pc' := 26) (L' := [(4, q_i 0), (3, q_i (s_bl (S 151) r h)), (0, q_r Γ 150), (1, q_i r), (2, q_i h)]) dX9_shadeOf_24 rfl (by decide) rfl ?_
    refine q_aloadn (pc' := 27) 2 dX9_shadeOf_26 rfl rfl ?_
    refine q_iloadn (pc' := 28) 3 dX9_shadeOf_27 rfl rfl ?_
    refine q_iloadn (pc' := 29) 4 dX9_shadeOf_28 rfl rfl ?_
    refine q_callVI (pc' := 32) dX9_shadeOf_29 rfl lX9_81 iX9_heightIn kc150 rfl (c_X9_heightIn (by first | assumption | omega) (by first | assumption | omega) (by first | assumption | omega) (by first | assumption | omega) (by first | assumption | omega)) rfl rfl (Nat.le_of_ble_eq_true rfl) (Nat.le_of_ble_eq_true rfl) (Nat.le_of_ble_eq_true rfl) ?_
    refine q_istore (pc' := 34) (L' := [(5, q_i (s_he (S 151) r h)), (4, q_i 0), (3, q_i (s_bl (S 151) r h)), (0, q_r Γ 150), (1, q_i r), (2, q_i h)]) dX9_shadeOf_32 rfl (by decide) rfl ?_
    refine q_iload (pc' := 36) 1 dX9_shadeOf_34 rfl rfl ?_
    refine q_iload (pc' := 38) 0 dX9_shadeOf_36 rfl rfl ?_
    refine q_icmp_ge (tgt := 46) (pc' := 41) dX9_shadeOf_38 rfl rfl (by decide) (by first | assumption | omega) (fun qc_38_1 => ?_) (fun qc_38_1 => ?_)
    · refine q_iload (pc' := 48) 0 dX9_shadeOf_46 rfl rfl ?_
      refine p_iret dX9_shadeOf_48 rfl ?_ ?_
      · unfold s_shd; omega
      · rfl
    · refine q_iload (pc' := 43) 1 dX9_shadeOf_41 rfl rfl ?_
      refine q_goto (pc' := 48) dX9_shadeOf_43 rfl ?_
      refine p_iret dX9_shadeOf_48 rfl ?_ ?_
      · unfold s_shd; omega
      · rfl
set_option maxRecDepth 20000 in
set_option maxHeartbeats 4000000 in
theorem c_X9_yieldIn {Γ : q_G} {S : q_S} {r h : Int} (ok : s_ok (S 151)) (r0 : 0 ≤ r) (r1 : r < 6) (h0 : 0 ≤ h) (h1 : h < 10) : q_Sp Γ mX9_yieldIn 7 0 0 [q_r Γ 150, q_i r, q_i h] (KC, S) (q_ev (some (q_i (s_y (S 151) r h))) (KC, S)) := by
  show q_Go Γ mX9_yieldIn 7 0 0 0 [(0, q_r Γ 150), (1, q_i r), (2, q_i h)] [] (KC, S) (q_ev (some (q_i (s_y (S 151) r h))) (KC, S))
  refine q_aloadn (pc' := 1) 0 dX9_yieldIn_0 rfl rfl ?_
  refine q_iloadn (pc' := 2) 1 dX9_yieldIn_1 rfl rfl ?_
  refine q_iloadn (pc' := 3) 2 dX9_yieldIn_2 rfl rfl ?_
  refine q_callVI (pc' := 6) dX9_yieldIn_3 rfl lX9_81 iX9_heightIn kc150 rfl (c_X9_heightIn (by first | assumption | omega) (by first | assumption | omega) (by first | assumption | omega) (by first | assumption | omega) (by first | assumption | omega)) rfl rfl (Nat.le_of_ble_eq_true rfl) (Nat.le_of_ble_eq_true rfl) (Nat.le_of_ble_eq_true rfl) ?_
  refine q_aloadn (pc' := 7) 0 dX9_yieldIn_6 rfl rfl ?_
  refine q_iloadn (pc' := 8) 1 dX9_yieldIn_7 rfl rfl ?_
  refine q_iloadn (pc' := 9) 2 dX9_yieldIn_8 rfl rfl ?_
  refine q_callVI (pc' := 12) dX9_yieldIn_9 rfl lX9_84 iX9_shadeOf kc150 rfl (c_X9_shadeOf (by first | assumption | omega) (by first | assumption | omega) (by first | assumption | omega) (by first | assumption | omega) (by first | assumption | omega)) rfl rfl (Nat.le_of_ble_eq_true rfl) (Nat.le_of_ble_eq_true rfl) (Nat.le_of_ble_eq_true rfl) ?_
  refine q_isub (pc' := 13) dX9_yieldIn_12 rfl ?_
  refine q_iloadn (pc' := 14) 2 dX9_yieldIn_13 rfl rfl ?_
  refine q_callSI (pc' := 17) dX9_yieldIn_14 rfl lX9_87 iX9_sunOf (c_X9_sunOf (by first | assumption | omega) (by first | assumption | omega)) rfl rfl (Nat.le_of_ble_eq_true rfl) (Nat.le_of_ble_eq_true rfl) (Nat.le_of_ble_eq_true rfl) ?_
  refine q_imul (pc' := 18) dX9_yieldIn_17 rfl ?_
  refine q_aloadn (pc' := 19) 0 dX9_yieldIn_18 rfl rfl ?_
  refine q_iloadn (pc' := 20) 1 dX9_yieldIn_19 rfl rfl ?_
  refine q_iconst (pc' := 21) dX9_yieldIn_20 rfl ?_
  refine q_callVI (pc' := 24) dX9_yieldIn_21 rfl lX9_46 iX9_part kc150 rfl (c_X9_part (by first | assumption | omega) (by first | assumption | omega)) rfl rfl (Nat.le_of_ble_eq_true rfl) (Nat.le_of_ble_eq_true rfl) (Nat.le_of_ble_eq_true rfl) ?_
  refine q_iadd (pc' := 25) dX9_yieldIn_24 rfl ?_
  refine p_iret dX9_yieldIn_25 rfl ?_ ?_
  · rfl
  · rfl
set_option maxRecDepth 20000 in
set_option maxHeartbeats 4000000 in
theorem c_X9_yieldOf {Γ : q_G} {S : q_S} {r : Int} (ok : s_ok (S 151)) (r0 : 0 ≤ r) (r1 : r < 6) : q_Sp Γ mX9_yieldOf 8 0 0 [q_r Γ 150, q_i r] (KC, S) (q_ev (some (q_i (s_yo (S 151) r))) (KC, S)) := by
  show q_Go Γ mX9_yieldOf 8 0 0 0 [(0, q_r Γ 150), (1, q_i r)] [] (KC, S) (q_ev (some (q_i (s_yo (S 151) r))) (KC, S))
  refine q_iconst (pc' := 1) dX9_yieldOf_0 rfl ?_
  refine q_istoren (pc' := 2) (L' := [(2, q_i 0), (0, q_r Γ 150), (1, q_i r)]) dX9_yieldOf_1 rfl rfl (by decide) rfl ?_
  refine q_iconst (pc' := 3) dX9_yieldOf_2 rfl ?_
  refine q_istoren (pc' := 4) (L' := [(3, q_i 0), (2, q_i 0), (0, q_r Γ 150), (1, q_i r)]) dX9_yieldOf_3 rfl rfl (by decide) rfl ?_
  have qlp_4 : ∀ (qn_4 : Nat) (z k : Int), (0 ≤ k) → (k ≤ 10) → (z = q_sum (s_y (S 151) r) k.toNat) → ((10 - k).toNat) = qn_4 → q_Go Γ mX9_yieldOf 8 0 0 4 [(0, q_r Γ 150), (1, q_i r), (2, q_i z), (3, q_i k)] [] (KC, S) (q_ev (some (q_i (s_yo (S 151) r))) (KC, S)) := by
    intro qn_4
    induction qn_4 using Nat.strongRecOn with
    | ind qn_4 qih_4 =>
      intro z k qa_4_0 qa_4_1 qa_4_2 qhn_4
      subst qhn_4
      refine q_iloadn (pc' := 5) 3 dX9_yieldOf_4 rfl rfl ?_
      refine q_bipush (pc' := 7) dX9_yieldOf_5 rfl rfl ?_
      refine q_icmp_ge (tgt := 25) (pc' := 10) dX9_yieldOf_7 rfl rfl (by first | assumption | omega) (by decide) (fun qc_7 => ?_) (fun qc_7 => ?_)
      · refine q_iloadn (pc' := 26) 2 dX9_yieldOf_25 rfl rfl ?_
        refine p_iret dX9_yieldOf_26 rfl ?_ ?_
        · rw [qa_4_2, show k = 10 by omega]; rfl
        · rfl
      · refine q_iloadn (pc' := 11) 2 dX9_yieldOf_10 rfl rfl ?_
        refine q_aloadn (pc' := 12) 0 dX9_yieldOf_11 rfl rfl ?_
        refine q_iloadn (pc' := 13) 1 dX9_yieldOf_12 rfl rfl ?_
        refine q_iloadn (pc' := 14) 3 dX9_yieldOf_13 rfl rfl ?_
        refine q_callVI (pc' := 17) dX9_yieldOf_14 rfl lX9_90 iX9_yieldIn kc150 rfl (c_X9_yieldIn (by first | assumption | omega) (by first | assumption | omega) (by first | assumption | omega) (by first | assumption | omega) (by first | assumption | omega)) rfl rfl (Nat.le_of_ble_eq_true rfl) (Nat.le_of_ble_eq_true rfl) (Nat.le_of_ble_eq_true rfl) ?_
        refine q_iadd (pc' := 18) dX9_yieldOf_17 rfl ?_
        refine q_istoren (pc' := 19) (L' := [(2, q_i (z + (s_y (S 151) r k))), (0, q_r Γ 150), (1, q_i r), (3, q_i k)]) dX9_yieldOf_18 rfl rfl (by decide) rfl ?_
        refine q_iinc (pc' := 22) 3 (L' := [(3, q_i (k + 1)), (2, q_i (z + (s_y (S 151) r k))), (0, q_r Γ 150), (1, q_i r)]) dX9_yieldOf_19 rfl rfl (by decide) rfl ?_
        refine q_goto (pc' := 4) dX9_yieldOf_22 rfl ?_
        refine p_sub [2, 3, 1, 0] rfl ?_
        exact qih_4 _ (by omega) _ _ (by first | assumption | omega) (by first | assumption | omega) (by rw [q_sum_s (by omega), ← qa_4_2]) rfl
  refine p_sub [2, 3, 1, 0] rfl ?_
  exact qlp_4 _ _ _ (by first | assumption | omega) (by first | assumption | omega) (by rfl) rfl
set_option maxRecDepth 20000 in
set_option maxHeartbeats 4000000 in
theorem c_X9_allYields {Γ : q_G} {S : q_S} (ok : s_ok (S 151)) : q_Sp Γ mX9_allYields 9 0 0 [q_r Γ 150] (KC, S) (q_ev (some (q_i (s_all (S 151)))) (KC, S)) := by
  show q_Go Γ mX9_allYields 9 0 0 0 [(0, q_r Γ 150)] [] (KC, S) (q_ev (some (q_i (s_all (S 151)))) (KC, S))
  have rw0 := s_rows_b ok
  refine q_iconst (pc' := 1) dX9_allYields_0 rfl ?_
  refine q_istoren (pc' := 2) (L' := [(1, q_i 0), (0, q_r Γ 150)]) dX9_allYields_1 rfl rfl (by decide) rfl ?_
  refine q_iconst (pc' := 3) dX9_allYields_2 rfl ?_
  refine q_istoren (pc' := 4) (L' := [(2, q_i 0), (1, q_i 0), (0, q_r Γ 150)]) dX9_allYields_3 rfl rfl (by decide) rfl ?_
  have qlp_4 : ∀ (qn_4 : Nat) (z k : Int), (0 ≤ k) → (k ≤ S 151 0) → (z = q_sum (s_yo (S 151)) k.toNat) → ((6 - k).toNat) = qn_4 → q_Go Γ mX9_allYields 9 0 0 4 [(0, q_r Γ 150), (1, q_i z), (2, q_i k)] [] (KC, S) (q_ev (some (q_i (s_all (S 151)))) (KC, S)) := by
    intro qn_4
    induction qn_4 using Nat.strongRecOn with
    | ind qn_4 qih_4 =>
      intro z k qa_4_0 qa_4_1 qa_4_2 qhn_4
      subst qhn_4
      refine q_iloadn (pc' := 5) 2 dX9_allYields_4 rfl rfl ?_
      refine q_aloadn (pc' := 6) 0 dX9_allYields_5 rfl rfl ?_
      refine p_getR (pc' := 9) (f := 151) dX9_allYields_6 rfl fX9_7 kc150 rfl ?_
      refine q_iconst (pc' := 10) dX9_allYields_9 rfl ?_
      refine p_iald (pc' := 11) dX9_allYields_10 rfl kc151 (by first | assumption | omega) (by first | assumption | omega) (by decide) (fun qy_10 eqy_10 rqy_10 => ?_)
      refine q_icmp_ge (tgt := 28) (pc' := 14) dX9_allYields_11 rfl rfl (by first | assumption | omega) (by first | assumption | omega) (fun qc_11 => ?_) (fun qc_11 => ?_)
      · refine q_iloadn (pc' := 29) 1 dX9_allYields_28 rfl rfl ?_
        refine p_iret dX9_allYields_29 rfl ?_ ?_
        · rw [qa_4_2, show k = S 151 0 by omega]; rfl
        · rfl
      · refine q_iloadn (pc' := 15) 1 dX9_allYields_14 rfl rfl ?_
        refine q_aloadn (pc' := 16) 0 dX9_allYields_15 rfl rfl ?_
        refine q_iloadn (pc' := 17) 2 dX9_allYields_16 rfl rfl ?_
        refine q_callVI (pc' := 20) dX9_allYields_17 rfl lX9_93 iX9_yieldOf kc150 rfl (c_X9_yieldOf (by first | assumption | omega) (by first | assumption | omega) (by first | assumption | omega)) rfl rfl (Nat.le_of_ble_eq_true rfl) (Nat.le_of_ble_eq_true rfl) (Nat.le_of_ble_eq_true rfl) ?_
        refine q_iadd (pc' := 21) dX9_allYields_20 rfl ?_
        refine q_istoren (pc' := 22) (L' := [(1, q_i (z + (s_yo (S 151) k))), (0, q_r Γ 150), (2, q_i k)]) dX9_allYields_21 rfl rfl (by decide) rfl ?_
        refine q_iinc (pc' := 25) 2 (L' := [(2, q_i (k + 1)), (1, q_i (z + (s_yo (S 151) k))), (0, q_r Γ 150)]) dX9_allYields_22 rfl rfl (by decide) rfl ?_
        refine q_goto (pc' := 4) dX9_allYields_25 rfl ?_
        refine p_sub [2, 1, 0] rfl ?_
        exact qih_4 _ (by omega) _ _ (by first | assumption | omega) (by first | assumption | omega) (by rw [q_sum_s (by omega), ← qa_4_2]) rfl
  refine p_sub [2, 1, 0] rfl ?_
  exact qlp_4 _ _ _ (by first | assumption | omega) (by first | assumption | omega) (by rfl) rfl
set_option maxRecDepth 20000 in
set_option maxHeartbeats 4000000 in
theorem c_X9_isPlaceTaken {Γ : q_G} {S : q_S} {p : Int} (ok : s_ok (S 151)) (hp : q_rg p) : q_Sp Γ mX9_isPlaceTaken 1 0 0 [q_r Γ 150, q_i p] (KC, S) (q_ev (some (q_i (q_B (s_taken (S 151) p)))) (KC, S)) := by
  show q_Go Γ mX9_isPlaceTaken 1 0 0 0 [(0, q_r Γ 150), (1, q_i p)] [] (KC, S) (q_ev (some (q_i (q_B (s_taken (S 151) p)))) (KC, S))
  have rw0 := s_rows_b ok
  refine q_iconst (pc' := 1) dX9_isPlaceTaken_0 rfl ?_
  refine q_istoren (pc' := 2) (L' := [(2, q_i 0), (0, q_r Γ 150), (1, q_i p)]) dX9_isPlaceTaken_1 rfl rfl (by decide) rfl ?_
  refine q_iconst (pc' := 3) dX9_isPlaceTaken_2 rfl ?_
  refine q_istoren (pc' := 4) (L' := [(3, q_i 0), (2, q_i 0), (0, q_r Γ 150), (1, q_i p)]) dX9_isPlaceTaken_3 rfl rfl (by decide) rfl ?_
  have qlp_4 : ∀ (qn_4 : Nat) (z k : Int), (0 ≤ k) → (k ≤ S 151 0) → (z = q_B (s_tkN (S 151) p k)) → ((6 - k).toNat) = qn_4 → q_Go Γ mX9_isPlaceTaken 1 0 0 4 [(0, q_r Γ 150), (1, q_i p), (2, q_i z), (3, q_i k)] [] (KC, S) (q_ev (some (q_i (q_B (s_taken (S 151) p)))) (KC, S)) := by
    intro qn_4
    induction qn_4 using Nat.strongRecOn with
    | ind qn_4 qih_4 =>
      intro z k qa_4_0 qa_4_1 qa_4_2 qhn_4
      subst qhn_4
      have zr : (s_tkN (S 151) p k ∧ z = 1) ∨ (¬ s_tkN (S 151) p k ∧ z = 0) := by rw [qa_4_2]; exact q_B_or _
      refine q_iloadn (pc' := 5) 3 dX9_isPlaceTaken_4 rfl rfl ?_
      refine q_aloadn (pc' := 6) 0 dX9_isPlaceTaken_5 rfl rfl ?_
      refine p_getR (pc' := 9) (f := 151) dX9_isPlaceTaken_6 rfl fX9_7 kc150 rfl ?_
      refine q_iconst (pc' := 10) dX9_isPlaceTaken_9 rfl ?_
      refine p_iald (pc' := 11) dX9_isPlaceTaken_10 rfl kc151 (by first | assumption | omega) (by first | assumption | omega) (by decide) (fun qy_10 eqy_10 rqy_10 => ?_)
      refine q_icmp_ge (tgt := 40) (pc' := 14) dX9_isPlaceTaken_11 rfl rfl (by first | assumption | omega) (by first | assumption | omega) (fun qc_11 => ?_) (fun qc_11 => ?_)
      · refine q_iloadn (pc' := 41) 2 dX9_isPlaceTaken_40 rfl rfl ?_
        refine p_zret dX9_isPlaceTaken_41 rfl ?_ ?_
        · rw [qa_4_2]; exact q_B_congr (by rw [show k = S 151 0 by omega]; rfl)
        · rfl
      · refine q_iloadn (pc' := 15) 2 dX9_isPlaceTaken_14 rfl rfl ?_
        refine q_if_ne (tgt := 28) (pc' := 18) dX9_isPlaceTaken_15 rfl rfl (by first | assumption | omega) (fun qc_15 => ?_) (fun qc_15 => ?_)
        · refine q_iconst (pc' := 29) dX9_isPlaceTaken_28 rfl ?_
          refine q_goto (pc' := 33) dX9_isPlaceTaken_29 rfl ?_
          refine q_istoren (pc' := 34) (L' := [(2, q_i 1), (0, q_r Γ 150), (1, q_i p), (3, q_i k)]) dX9_isPlaceTaken_33 rfl rfl (by decide) rfl ?_
          refine q_iinc (pc' := 37) 3 (L' := [(3, q_i (k + 1)), (2, q_i 1), (0, q_r Γ 150), (1, q_i p)]) dX9_isPlaceTaken_34 rfl rfl (by decide) rfl ?_
          refine q_goto (pc' := 4) dX9_isPlaceTaken_37 rfl ?_
          refine p_sub [2, 3, 1, 0] rfl ?_
          exact qih_4 _ (by omega) _ _ (by first | assumption | omega) (by first | assumption | omega) (by first | exact q_B_1 ((s_tkN_s (by omega)).mpr (Or.inr (by assumption))) | exact q_B_1 ((s_tkN_s (by omega)).mpr (Or.inl (by rcases zr with q | q; exact q.1; omega))) | exact q_B_0 (fun q => by rcases (s_tkN_s (by omega)).mp q with q1 | q1; (rcases zr with q2 | q2; omega; exact q2.1 q1); omega)) rfl
        · have pk := s_pt_b ok (r := k) (by omega) (by omega)
          refine q_aloadn (pc' := 19) 0 dX9_isPlaceTaken_18 rfl rfl ?_
          refine q_iloadn (pc' := 20) 3 dX9_isPlaceTaken_19 rfl rfl ?_
          refine q_iconst (pc' := 21) dX9_isPlaceTaken_20 rfl ?_
          refine q_callVI (pc' := 24) dX9_isPlaceTaken_21 rfl lX9_46 iX9_part kc150 rfl (c_X9_part (by first | assumption | omega) (by first | assumption | omega)) rfl rfl (Nat.le_of_ble_eq_true rfl) (Nat.le_of_ble_eq_true rfl) (Nat.le_of_ble_eq_true rfl) ?_
          refine q_iloadn (pc' := 25) 1 dX9_isPlaceTaken_24 rfl rfl ?_
          refine q_icmp_ne (tgt := 32) (pc' := 28) dX9_isPlaceTaken_25 rfl rfl (by first | assumption | omega) (by first | assumption | omega) (fun qc_25 => ?_) (fun qc_25 => ?_)
          · refine q_iconst (pc' := 33) dX9_isPlaceTaken_32 rfl ?_
            refine q_istoren (pc' := 34) (L' := [(2, q_i 0), (0, q_r Γ 150), (1, q_i p), (3, q_i k)]) dX9_isPlaceTaken_33 rfl rfl (by decide) rfl ?_
            refine q_iinc (pc' := 37) 3 (L' := [(3, q_i (k + 1)), (2, q_i 0), (0, q_r Γ 150), (1, q_i p)]) dX9_isPlaceTaken_34 rfl rfl (by decide) rfl ?_
            refine q_goto (pc' := 4) dX9_isPlaceTaken_37 rfl ?_
            refine p_sub [2, 3, 1, 0] rfl ?_
            exact qih_4 _ (by omega) _ _ (by first | assumption | omega) (by first | assumption | omega) (by first | exact q_B_1 ((s_tkN_s (by omega)).mpr (Or.inr (by assumption))) | exact q_B_1 ((s_tkN_s (by omega)).mpr (Or.inl (by rcases zr with q | q; exact q.1; omega))) | exact q_B_0 (fun q => by rcases (s_tkN_s (by omega)).mp q with q1 | q1; (rcases zr with q2 | q2; omega; exact q2.1 q1); omega)) rfl
          · refine q_iconst (pc' := 29) dX9_isPlaceTaken_28 rfl ?_
            refine q_goto (pc' := 33) dX9_isPlaceTaken_29 rfl ?_
            refine q_istoren (pc' := 34) (L' := [(2, q_i 1), (0, q_r Γ 150), (1, q_i p), (3, q_i k)]) dX9_isPlaceTaken_33 rfl rfl (by decide) rfl ?_
            refine q_iinc (pc' := 37) 3 (L' := [(3, q_i (k + 1)), (2, q_i 1), (0, q_r Γ 150), (1, q_i p)]) dX9_isPlaceTaken_34 rfl rfl (by decide) rfl ?_
            refine q_goto (pc' := 4) dX9_isPlaceTaken_37 rfl ?_
            refine p_sub [2, 3, 1, 0] rfl ?_
            exact qih_4 _ (by omega) _ _ (by first | assumption | omega) (by first | assumption | omega) (by first | exact q_B_1 ((s_tkN_s (by omega)).mpr (Or.inr (by assumption))) | exact q_B_1 ((s_tkN_s (by omega)).mpr (Or.inl (by rcases zr with q | q; exact q.1; omega))) | exact q_B_0 (fun q => by rcases (s_tkN_s (by omega)).mp q with q1 | q1; (rcases zr with q2 | q2; omega; exact q2.1 q1); omega)) rfl
  refine p_sub [2, 3, 1, 0] rfl ?_
  exact qlp_4 _ _ _ (by first | assumption | omega) (by first | assumption | omega) (by exact q_B_0 (fun ⟨r, r0, r1, _⟩ => by omega)) rfl
set_option maxRecDepth 20000 in
set_option maxHeartbeats 4000000 in
theorem c_X9_fullYield {Γ : q_G} {S : q_S} {r : Int} (ok : s_ok (S 151)) (r0 : 0 ≤ r) (r1 : r < 6) : q_Sp Γ mX9_fullYield 5 0 0 [q_r Γ 150, q_i r] (KC, S) (q_ev (some (q_i (s_full (S 151) r))) (KC, S)) := by
  show q_Go Γ mX9_fullYield 5 0 0 0 [(0, q_r Γ 150), (1, q_i r)] [] (KC, S) (q_ev (some (q_i (s_full (S 151) r))) (KC, S))
  refine q_iconst (pc' := 1) dX9_fullYield_0 rfl ?_
  refine q_istoren (pc' := 2) (L' := [(2, q_i 0), (0, q_r Γ 150), (1, q_i r)]) dX9_fullYield_1 rfl rfl (by decide) rfl ?_
  refine q_iconst (pc' := 3) dX9_fullYield_2 rfl ?_
  refine q_istoren (pc' := 4) (L' := [(3, q_i 0), (2, q_i 0), (0, q_r Γ 150), (1, q_i r)]) dX9_fullYield_3 rfl rfl (by decide) rfl ?_
  have qlp_4 : ∀ (qn_4 : Nat) (z k : Int), (0 ≤ k) → (k ≤ 10) → (z = q_sum (fun h => s_he (S 151) r h * s_sun h + s_pt (S 151) r 1) k.toNat) → ((10 - k).toNat) = qn_4 → q_Go Γ mX9_fullYield 5 0 0 4 [(0, q_r Γ 150), (1, q_i r), (2, q_i z), (3, q_i k)] [] (KC, S) (q_ev (some (q_i (s_full (S 151) r))) (KC, S)) := by
    intro qn_4
    induction qn_4 using Nat.strongRecOn with
    | ind qn_4 qih_4 =>
      intro z k qa_4_0 qa_4_1 qa_4_2 qhn_4
      subst qhn_4
      refine q_iloadn (pc' := 5) 3 dX9_fullYield_4 rfl rfl ?_
      refine q_bipush (pc' := 7) dX9_fullYield_5 rfl rfl ?_
      refine q_icmp_ge (tgt := 37) (pc' := 10) dX9_fullYield_7 rfl rfl (by first | assumption | omega) (by decide) (fun qc_7 => ?_) (fun qc_7 => ?_)
      · refine q_iloadn (pc' := 38) 2 dX9_fullYield_37 rfl rfl ?_
        refine p_iret dX9_fullYield_38 rfl ?_ ?_
        · rw [qa_4_2, show k = 10 by omega]; rfl
        · rfl
      · refine q_iloadn (pc' := 11) 2 dX9_fullYield_10 rfl rfl ?_
        refine q_aloadn (pc' := 12) 0 dX9_fullYield_11 rfl rfl ?_
        refine q_iloadn (pc' := 13) 1 dX9_fullYield_12 rfl rfl ?_
        refine q_iloadn (pc' := 14) 3 dX9_fullYield_13 rfl rfl ?_
        refine q_callVI (pc' := 17) dX9_fullYield_14 rfl lX9_81 iX9_heightIn kc150 rfl (c_X9_heightIn (by first | assumption | omega) (by first | assumption | omega) (by first | assumption | omega) (by first | assumption | omega) (by first | assumption | omega)) rfl rfl (Nat.le_of_ble_eq_true rfl) (Nat.le_of_ble_eq_true rfl) (Nat.le_of_ble_eq_true rfl) ?_
        refine q_iloadn (pc' := 18) 3 dX9_fullYield_17 rfl rfl ?_
        refine q_callSI (pc' := 21) dX9_fullYield_18 rfl lX9_87 iX9_sunOf (c_X9_sunOf (by first | assumption | omega) (by first | assumption | omega)) rfl rfl (Nat.le_of_ble_eq_true rfl) (Nat.le_of_ble_eq_true rfl) (Nat.le_of_ble_eq_true rfl) ?_
        refine q_imul (pc' := 22) dX9_fullYield_21 rfl ?_
        refine q_aloadn (pc' := 23) 0 dX9_fullYield_22 rfl rfl ?_
        refine q_iloadn (pc' := 24) 1 dX9_fullYield_23 rfl rfl ?_
        refine q_iconst (pc' := 25) dX9_fullYield_24 rfl ?_
        refine q_callVI (pc' := 28) dX9_fullYield_25 rfl lX9_46 iX9_part kc150 rfl (c_X9_part (by first | assumption | omega) (by first | assumption | omega)) rfl rfl (Nat.le_of_ble_eq_true rfl) (Nat.le_of_ble_eq_true rfl) (Nat.le_of_ble_eq_true rfl) ?_
        refine q_iadd (pc' := 29) dX9_fullYield_28 rfl ?_
        refine q_iadd (pc' := 30) dX9_fullYield_29 rfl ?_
        refine q_istoren (pc' := 31) (L' := [(2, q_i (z + (((s_he (S 151) r k) * (s_sun k)) + (s_pt (S 151) r 1)))), (0, q_r Γ 150), (1, q_i r), (3, q_i k)]) dX9_fullYield_30 rfl rfl (by decide) rfl ?_
        refine q_iinc (pc' := 34) 3 (L' := [(3, q_i (k + 1)), (2, q_i (z + (((s_he (S 151) r k) * (s_sun k)) + (s_pt (S 151) r 1)))), (0, q_r Γ 150), (1, q_i r)]) dX9_fullYield_31 rfl rfl (by decide) rfl ?_
        refine q_goto (pc' := 4) dX9_fullYield_34 rfl ?_
        refine p_sub [2, 3, 1, 0] rfl ?_
        exact qih_4 _ (by omega) _ _ (by first | assumption | omega) (by first | assumption | omega) (by first | (rw [q_sum_s (by omega), ← qa_4_2]; done) | (rw [q_sum_s (by omega), ← qa_4_2]; rfl)) rfl
  refine p_sub [2, 3, 1, 0] rfl ?_
  exact qlp_4 _ _ _ (by first | assumption | omega) (by first | assumption | omega) (by rfl) rfl
set_option maxRecDepth 20000 in
set_option maxHeartbeats 4000000 in
theorem c_X9_lowHours {Γ : q_G} {S : q_S} {r : Int} (ok : s_ok (S 151)) (r0 : 0 ≤ r) (r1 : r < 6) : q_Sp Γ mX9_lowHours 4 0 0 [q_r Γ 150, q_i r] (KC, S) (q_ev (some (q_i (s_low (S 151) r))) (KC, S)) := by
  show q_Go Γ mX9_lowHours 4 0 0 0 [(0, q_r Γ 150), (1, q_i r)] [] (KC, S) (q_ev (some (q_i (s_low (S 151) r))) (KC, S))
  have pa := s_pt_b ok r0 r1
  refine q_iconst (pc' := 1) dX9_lowHours_0 rfl ?_
  refine q_istoren (pc' := 2) (L' := [(2, q_i 0), (0, q_r Γ 150), (1, q_i r)]) dX9_lowHours_1 rfl rfl (by decide) rfl ?_
  refine q_iconst (pc' := 3) dX9_lowHours_2 rfl ?_
  refine q_istoren (pc' := 4) (L' := [(3, q_i 0), (2, q_i 0), (0, q_r Γ 150), (1, q_i r)]) dX9_lowHours_3 rfl rfl (by decide) rfl ?_
  have qlp_4 : ∀ (qn_4 : Nat) (z k : Int), (0 ≤ k) → (k ≤ 10) → (z = q_sum (fun h => q_B (¬ s_flat (S 151) h ∧ s_ti (S 151) r (s_pt (S 151) r 2) h < s_pt (S 151) r 2)) k.toNat) → ((10 - k).toNat) = qn_4 → q_Go Γ mX9_lowHours 4 0 0 4 [(0, q_r Γ 150), (1, q_i r), (2, q_i z), (3, q_i k)] [] (KC, S) (q_ev (some (q_i (s_low (S 151) r))) (KC, S)) := by
    intro qn_4
    induction qn_4 using Nat.strongRecOn with
    | ind qn_4 qih_4 =>
      intro z k qa_4_0 qa_4_1 qa_4_2 qhn_4
      subst qhn_4
      refine q_iloadn (pc' := 5) 3 dX9_lowHours_4 rfl rfl ?_
      refine q_bipush (pc' := 7) dX9_lowHours_5 rfl rfl ?_
      refine q_icmp_ge (tgt := 53) (pc' := 10) dX9_lowHours_7 rfl rfl (by first | assumption | omega) (by decide) (fun qc_7 => ?_) (fun qc_7 => ?_)
      · refine q_iloadn (pc' := 54) 2 dX9_lowHours_53 rfl rfl ?_
        refine p_iret dX9_lowHours_54 rfl ?_ ?_
        · rw [qa_4_2, show k = 10 by omega]; rfl
        · rfl
      · refine q_iloadn (pc' := 11) 2 dX9_lowHours_10 rfl rfl ?_
        refine q_aloadn (pc' := 12) 0 dX9_lowHours_11 rfl rfl ?_
        refine q_iloadn (pc' := 13) 3 dX9_lowHours_12 rfl rfl ?_
        refine q_callVI (pc' := 16) dX9_lowHours_13 rfl lX9_62 iX9_isFlat kc150 rfl (c_X9_isFlat (by first | assumption | omega) (by first | assumption | omega) (by first | assumption | omega)) rfl rfl (Nat.le_of_ble_eq_true rfl) (Nat.le_of_ble_eq_true rfl) (Nat.le_of_ble_eq_true rfl) ?_
        refine q_if_ne_B (tgt := 44) (pc' := 19) dX9_lowHours_16 rfl rfl (fun qc_16 => ?_) (fun qc_16 => ?_)
        · refine q_iconst (pc' := 45) dX9_lowHours_44 rfl ?_
          refine q_iadd (pc' := 46) dX9_lowHours_45 rfl ?_
          refine q_istoren (pc' := 47) (L' := [(2, q_i (z + 0)), (0, q_r Γ 150), (1, q_i r), (3, q_i k)]) dX9_lowHours_46 rfl rfl (by decide) rfl ?_
          refine q_iinc (pc' := 50) 3 (L' := [(3, q_i (k + 1)), (2, q_i (z + 0)), (0, q_r Γ 150), (1, q_i r)]) dX9_lowHours_47 rfl rfl (by decide) rfl ?_
          refine q_goto (pc' := 4) dX9_lowHours_50 rfl ?_
          refine p_sub [2, 3, 1, 0] rfl ?_
          exact qih_4 _ (by omega) _ _ (by first | assumption | omega) (by first | assumption | omega) (by rw [q_sum_s (by omega), ← qa_4_2]; first | exact congrArg (z + ·) (q_B_1 ⟨qc_16, by omega⟩) | exact congrArg (z + ·) (q_B_0 (fun q => q.1 qc_16)) | exact congrArg (z + ·) (q_B_0 (fun q => by have q2 := q.2; omega))) rfl
        · have tb := s_tio_b ok k r0 r1
          refine q_aloadn (pc' := 20) 0 dX9_lowHours_19 rfl rfl ?_
          refine q_iloadn (pc' := 21) 1 dX9_lowHours_20 rfl rfl ?_
          refine q_aloadn (pc' := 22) 0 dX9_lowHours_21 rfl rfl ?_
          refine q_iloadn (pc' := 23) 1 dX9_lowHours_22 rfl rfl ?_
          refine q_iconst (pc' := 24) dX9_lowHours_23 rfl ?_
          refine q_callVI (pc' := 27) dX9_lowHours_24 rfl lX9_46 iX9_part kc150 rfl (c_X9_part (by first | assumption | omega) (by first | assumption | omega)) rfl rfl (Nat.le_of_ble_eq_true rfl) (Nat.le_of_ble_eq_true rfl) (Nat.le_of_ble_eq_true rfl) ?_
          refine q_iloadn (pc' := 28) 3 dX9_lowHours_27 rfl rfl ?_
          refine q_callVI (pc' := 31) dX9_lowHours_28 rfl lX9_69 iX9_tiltIn kc150 rfl (c_X9_tiltIn (by first | assumption | omega) (by first | assumption | omega) (by first | assumption | omega) (by first | assumption | omega) (by first | assumption | omega) (by first | assumption | omega) (by first | assumption | omega)) rfl rfl (Nat.le_of_ble_eq_true rfl) (Nat.le_of_ble_eq_true rfl) (Nat.le_of_ble_eq_true rfl) ?_
          refine q_aloadn (pc' := 32) 0 dX9_lowHours_31 rfl rfl ?_
          refine q_iloadn (pc' := 33) 1 dX9_lowHours_32 rfl rfl ?_
          refine q_iconst (pc' := 34) dX9_lowHours_33 rfl ?_
          refine q_callVI (pc' := 37) dX9_lowHours_34 rfl lX9_46 iX9_part kc150 rfl (c_X9_part (by first | assumption | omega) (by first | assumption | omega)) rfl rfl (Nat.le_of_ble_eq_true rfl) (Nat.le_of_ble_eq_true rfl) (Nat.le_of_ble_eq_true rfl) ?_
          refine q_icmp_ge (tgt := 44) (pc' := 40) dX9_lowHours_37 rfl rfl (by first | assumption | omega) (by first | assumption | omega) (fun qc_37 => ?_) (fun qc_37 => ?_)
          · refine q_iconst (pc' := 45) dX9_lowHours_44 rfl ?_
            refine q_iadd (pc' := 46) dX9_lowHours_45 rfl ?_
            refine q_istoren (pc' := 47) (L' := [(2, q_i (z + 0)), (0, q_r Γ 150), (1, q_i r), (3, q_i k)]) dX9_lowHours_46 rfl rfl (by decide) rfl ?_
            refine q_iinc (pc' := 50) 3 (L' := [(3, q_i (k + 1)), (2, q_i (z + 0)), (0, q_r Γ 150), (1, q_i r)]) dX9_lowHours_47 rfl rfl (by decide) rfl ?_
            refine q_goto (pc' := 4) dX9_lowHours_50 rfl ?_
            refine p_sub [2, 3, 1, 0] rfl ?_
            exact qih_4 _ (by omega) _ _ (by first | assumption | omega) (by first | assumption | omega) (by rw [q_sum_s (by omega), ← qa_4_2]; first | exact congrArg (z + ·) (q_B_1 ⟨qc_16, by omega⟩) | exact congrArg (z + ·) (q_B_0 (fun q => q.1 qc_16)) | exact congrArg (z + ·) (q_B_0 (fun q => by have q2 := q.2; omega))) rfl
          · refine q_iconst (pc' := 41) dX9_lowHours_40 rfl ?_
            refine q_goto (pc' := 45) dX9_lowHours_41 rfl ?_
            refine q_iadd (pc' := 46) dX9_lowHours_45 rfl ?_
            refine q_istoren (pc' := 47) (L' := [(2, q_i (z + 1)), (0, q_r Γ 150), (1, q_i r), (3, q_i k)]) dX9_lowHours_46 rfl rfl (by decide) rfl ?_
            refine q_iinc (pc' := 50) 3 (L' := [(3, q_i (k + 1)), (2, q_i (z + 1)), (0, q_r Γ 150), (1, q_i r)]) dX9_lowHours_47 rfl rfl (by decide) rfl ?_
            refine q_goto (pc' := 4) dX9_lowHours_50 rfl ?_
            refine p_sub [2, 3, 1, 0] rfl ?_
            exact qih_4 _ (by omega) _ _ (by first | assumption | omega) (by first | assumption | omega) (by rw [q_sum_s (by omega), ← qa_4_2]; first | exact congrArg (z + ·) (q_B_1 ⟨qc_16, by omega⟩) | exact congrArg (z + ·) (q_B_0 (fun q => q.1 qc_16)) | exact congrArg (z + ·) (q_B_0 (fun q => by have q2 := q.2; omega))) rfl
  refine p_sub [2, 3, 1, 0] rfl ?_
  exact qlp_4 _ _ _ (by first | assumption | omega) (by first | assumption | omega) (by rfl) rfl
set_option maxRecDepth 20000 in
set_option maxHeartbeats 4000000 in
theorem c_X9_shadeHours {Γ : q_G} {S : q_S} {r : Int} (ok : s_ok (S 151)) (r0 : 0 ≤ r) (r1 : r < 6) : q_Sp Γ mX9_shadeHours 7 0 0 [q_r Γ 150, q_i r] (KC, S) (q_ev (some (q_i (s_shh (S 151) r))) (KC, S)) := by
  show q_Go Γ mX9_shadeHours 7 0 0 0 [(0, q_r Γ 150), (1, q_i r)] [] (KC, S) (q_ev (some (q_i (s_shh (S 151) r))) (KC, S))
  refine q_iconst (pc' := 1) dX9_shadeHours_0 rfl ?_
  refine q_istoren (pc' := 2) (L' := [(2, q_i 0), (0, q_r Γ 150), (1, q_i r)]) dX9_shadeHours_1 rfl rfl (by decide) rfl ?_
  refine q_iconst (pc' := 3) dX9_shadeHours_2 rfl ?_
  refine q_istoren (pc' := 4) (L' := [(3, q_i 0), (2, q_i 0), (0, q_r Γ 150), (1, q_i r)]) dX9_shadeHours_3 rfl rfl (by decide) rfl ?_
  have qlp_4 : ∀ (qn_4 : Nat) (z k : Int), (0 ≤ k) → (k ≤ 10) → (z = q_sum (fun h => q_B (0 < s_shd (S 151) r h)) k.toNat) → ((10 - k).toNat) = qn_4 → q_Go Γ mX9_shadeHours 7 0 0 4 [(0, q_r Γ 150), (1, q_i r), (2, q_i z), (3, q_i k)] [] (KC, S) (q_ev (some (q_i (s_shh (S 151) r))) (KC, S)) := by
    intro qn_4
    induction qn_4 using Nat.strongRecOn with
    | ind qn_4 qih_4 =>
      intro z k qa_4_0 qa_4_1 qa_4_2 qhn_4
      subst qhn_4
      refine q_iloadn (pc' := 5) 3 dX9_shadeHours_4 rfl rfl ?_
      refine q_bipush (pc' := 7) dX9_shadeHours_5 rfl rfl ?_
      refine q_icmp_ge (tgt := 33) (pc' := 10) dX9_shadeHours_7 rfl rfl (by first | assumption | omega) (by decide) (fun qc_7 => ?_) (fun qc_7 => ?_)
      · refine q_iloadn (pc' := 34) 2 dX9_shadeHours_33 rfl rfl ?_
        refine p_iret dX9_shadeHours_34 rfl ?_ ?_
        · rw [qa_4_2, show k = 10 by omega]; rfl
        · rfl
      · refine q_iloadn (pc' := 11) 2 dX9_shadeHours_10 rfl rfl ?_
        have sb := s_shd_b ok r0 r1 (h := k) (by omega) (by omega)
        have hb := s_he_b ok k r0 r1
        refine q_aloadn (pc' := 12) 0 dX9_shadeHours_11 rfl rfl ?_
        refine q_iloadn (pc' := 13) 1 dX9_shadeHours_12 rfl rfl ?_
        refine q_iloadn (pc' := 14) 3 dX9_shadeHours_13 rfl rfl ?_
        refine q_callVI (pc' := 17) dX9_shadeHours_14 rfl lX9_84 iX9_shadeOf kc150 rfl (c_X9_shadeOf (by first | assumption | omega) (by first | assumption | omega) (by first | assumption | omega) (by first | assumption | omega) (by first | assumption | omega)) rfl rfl (Nat.le_of_ble_eq_true rfl) (Nat.le_of_ble_eq_true rfl) (Nat.le_of_ble_eq_true rfl) ?_
        refine q_if_le (tgt := 24) (pc' := 20) dX9_shadeHours_17 rfl rfl (by first | assumption | omega) (fun qc_17 => ?_) (fun qc_17 => ?_)
        · refine q_iconst (pc' := 25) dX9_shadeHours_24 rfl ?_
          refine q_iadd (pc' := 26) dX9_shadeHours_25 rfl ?_
          refine q_istoren (pc' := 27) (L' := [(2, q_i (z + 0)), (0, q_r Γ 150), (1, q_i r), (3, q_i k)]) dX9_shadeHours_26 rfl rfl (by decide) rfl ?_
          refine q_iinc (pc' := 30) 3 (L' := [(3, q_i (k + 1)), (2, q_i (z + 0)), (0, q_r Γ 150), (1, q_i r)]) dX9_shadeHours_27 rfl rfl (by decide) rfl ?_
          refine q_goto (pc' := 4) dX9_shadeHours_30 rfl ?_
          refine p_sub [2, 3, 1, 0] rfl ?_
          exact qih_4 _ (by omega) _ _ (by first | assumption | omega) (by first | assumption | omega) (by rw [q_sum_s (by omega), ← qa_4_2]; first | exact congrArg (z + ·) (q_B_1 (by omega)) | exact congrArg (z + ·) (q_B_0 (by omega))) rfl
        · refine q_iconst (pc' := 21) dX9_shadeHours_20 rfl ?_
          refine q_goto (pc' := 25) dX9_shadeHours_21 rfl ?_
          refine q_iadd (pc' := 26) dX9_shadeHours_25 rfl ?_
          refine q_istoren (pc' := 27) (L' := [(2, q_i (z + 1)), (0, q_r Γ 150), (1, q_i r), (3, q_i k)]) dX9_shadeHours_26 rfl rfl (by decide) rfl ?_
          refine q_iinc (pc' := 30) 3 (L' := [(3, q_i (k + 1)), (2, q_i (z + 1)), (0, q_r Γ 150), (1, q_i r)]) dX9_shadeHours_27 rfl rfl (by decide) rfl ?_
          refine q_goto (pc' := 4) dX9_shadeHours_30 rfl ?_
          refine p_sub [2, 3, 1, 0] rfl ?_
          exact qih_4 _ (by omega) _ _ (by first | assumption | omega) (by first | assumption | omega) (by rw [q_sum_s (by omega), ← qa_4_2]; first | exact congrArg (z + ·) (q_B_1 (by omega)) | exact congrArg (z + ·) (q_B_0 (by omega))) rfl
  refine p_sub [2, 3, 1, 0] rfl ?_
  exact qlp_4 _ _ _ (by first | assumption | omega) (by first | assumption | omega) (by rfl) rfl
set_option maxRecDepth 20000 in
set_option maxHeartbeats 4000000 in
theorem c_X9_blamedHours {Γ : q_G} {S : q_S} {r a : Int} (ok : s_ok (S 151)) (r0 : 0 ≤ r) (r1 : r < 6) (a0 : 0 ≤ a) (a1 : a < 6) : q_Sp Γ mX9_blamedHours 6 0 0 [q_r Γ 150, q_i r, q_i a] (KC, S) (q_ev (some (q_i (s_blh (S 151) r a))) (KC, S)) := by
  show q_Go Γ mX9_blamedHours 6 0 0 0 [(0, q_r Γ 150), (1, q_i r), (2, q_i a)] [] (KC, S) (q_ev (some (q_i (s_blh (S 151) r a))) (KC, S))
  have rw0 := s_rows_b ok
  refine q_iconst (pc' := 1) dX9_blamedHours_0 rfl ?_
  refine q_istoren (pc' := 2) (L' := [(3, q_i 0), (0, q_r Γ 150), (1, q_i r), (2, q_i a)]) dX9_blamedHours_1 rfl rfl (by decide) rfl ?_
  refine q_iconst (pc' := 3) dX9_blamedHours_2 rfl ?_
  refine q_istore (pc' := 5) (L' := [(4, q_i 0), (3, q_i 0), (0, q_r Γ 150), (1, q_i r), (2, q_i a)]) dX9_blamedHours_3 rfl (by decide) rfl ?_
  have qlp_5 : ∀ (qn_5 : Nat) (z k : Int), (0 ≤ k) → (k ≤ 10) → (z = q_sum (fun h => q_B (s_bl (S 151) r h = a)) k.toNat) → ((10 - k).toNat) = qn_5 → q_Go Γ mX9_blamedHours 6 0 0 5 [(0, q_r Γ 150), (1, q_i r), (2, q_i a), (3, q_i z), (4, q_i k)] [] (KC, S) (q_ev (some (q_i (s_blh (S 151) r a))) (KC, S)) := by
    intro qn_5
    induction qn_5 using Nat.strongRecOn with
    | ind qn_5 qih_5 =>
      intro z k qa_5_0 qa_5_1 qa_5_2 qhn_5
      subst qhn_5
      refine q_iload (pc' := 7) 4 dX9_blamedHours_5 rfl rfl ?_
      refine q_bipush (pc' := 9) dX9_blamedHours_7 rfl rfl ?_
      refine q_icmp_ge (tgt := 37) (pc' := 12) dX9_blamedHours_9 rfl rfl (by first | assumption | omega) (by decide) (fun qc_9 => ?_) (fun qc_9 => ?_)
      · refine q_iloadn (pc' := 38) 3 dX9_blamedHours_37 rfl rfl ?_
        refine p_iret dX9_blamedHours_38 rfl ?_ ?_
        · rw [qa_5_2, show k = 10 by omega]; rfl
        · rfl
      · refine q_iloadn (pc' := 13) 3 dX9_blamedHours_12 rfl rfl ?_
        have sb := s_bl_b ok r0 r1 (h := k) (by omega) (by omega)
        refine q_aloadn (pc' := 14) 0 dX9_blamedHours_13 rfl rfl ?_
        refine q_iloadn (pc' := 15) 1 dX9_blamedHours_14 rfl rfl ?_
        refine q_iload (pc' := 17) 4 dX9_blamedHours_15 rfl rfl ?_
        refine q_callVI (pc' := 20) dX9_blamedHours_17 rfl lX9_78 iX9_blamed kc150 rfl (c_X9_blamed (by first | assumption | omega) (by first | assumption | omega) (by first | assumption | omega) (by first | assumption | omega) (by first | assumption | omega)) rfl rfl (Nat.le_of_ble_eq_true rfl) (Nat.le_of_ble_eq_true rfl) (Nat.le_of_ble_eq_true rfl) ?_
        refine q_iloadn (pc' := 21) 2 dX9_blamedHours_20 rfl rfl ?_
        refine q_icmp_ne (tgt := 28) (pc' := 24) dX9_blamedHours_21 rfl rfl (by first | assumption | omega) (by first | assumption | omega) (fun qc_21 => ?_) (fun qc_21 => ?_)
        · refine q_iconst (pc' := 29) dX9_blamedHours_28 rfl ?_
          refine q_iadd (pc' := 30) dX9_blamedHours_29 rfl ?_
          refine q_istoren (pc' := 31) (L' := [(3, q_i (z + 0)), (0, q_r Γ 150), (1, q_i r), (2, q_i a), (4, q_i k)]) dX9_blamedHours_30 rfl rfl (by decide) rfl ?_
          refine q_iinc (pc' := 34) 4 (L' := [(4, q_i (k + 1)), (3, q_i (z + 0)), (0, q_r Γ 150), (1, q_i r), (2, q_i a)]) dX9_blamedHours_31 rfl rfl (by decide) rfl ?_
          refine q_goto (pc' := 5) dX9_blamedHours_34 rfl ?_
          refine p_sub [2, 3, 4, 1, 0] rfl ?_
          exact qih_5 _ (by omega) _ _ (by first | assumption | omega) (by first | assumption | omega) (by rw [q_sum_s (by omega), ← qa_5_2]; first | exact congrArg (z + ·) (q_B_1 (by omega)) | exact congrArg (z + ·) (q_B_0 (by omega))) rfl
        · refine q_iconst (pc' := 25) dX9_blamedHours_24 rfl ?_
          refine q_goto (pc' := 29) dX9_blamedHours_25 rfl ?_
          refine q_iadd (pc' := 30) dX9_blamedHours_29 rfl ?_
          refine q_istoren (pc' := 31) (L' := [(3, q_i (z + 1)), (0, q_r Γ 150), (1, q_i r), (2, q_i a), (4, q_i k)]) dX9_blamedHours_30 rfl rfl (by decide) rfl ?_
          refine q_iinc (pc' := 34) 4 (L' := [(4, q_i (k + 1)), (3, q_i (z + 1)), (0, q_r Γ 150), (1, q_i r), (2, q_i a)]) dX9_blamedHours_31 rfl rfl (by decide) rfl ?_
          refine q_goto (pc' := 5) dX9_blamedHours_34 rfl ?_
          refine p_sub [2, 3, 4, 1, 0] rfl ?_
          exact qih_5 _ (by omega) _ _ (by first | assumption | omega) (by first | assumption | omega) (by rw [q_sum_s (by omega), ← qa_5_2]; first | exact congrArg (z + ·) (q_B_1 (by omega)) | exact congrArg (z + ·) (q_B_0 (by omega))) rfl
  refine p_sub [2, 3, 4, 1, 0] rfl ?_
  exact qlp_5 _ _ _ (by first | assumption | omega) (by first | assumption | omega) (by rfl) rfl
set_option maxRecDepth 20000 in
set_option maxHeartbeats 4000000 in
theorem c_X9_mostBlamed {Γ : q_G} {S : q_S} {r : Int} (ok : s_ok (S 151)) (r0 : 0 ≤ r) (r1 : r < 6) : q_Sp Γ mX9_mostBlamed 7 0 0 [q_r Γ 150, q_i r] (KC, S) (q_ev (some (q_i (s_mb (S 151) r))) (KC, S)) := by
  show q_Go Γ mX9_mostBlamed 7 0 0 0 [(0, q_r Γ 150), (1, q_i r)] [] (KC, S) (q_ev (some (q_i (s_mb (S 151) r))) (KC, S))
  have rw0 := s_rows_b ok
  refine q_bipush (pc' := 2) dX9_mostBlamed_0 rfl rfl ?_
  refine q_istoren (pc' := 3) (L' := [(2, q_i (-6)), (0, q_r Γ 150), (1, q_i r)]) dX9_mostBlamed_2 rfl rfl (by decide) rfl ?_
  refine q_iconst (pc' := 4) dX9_mostBlamed_3 rfl ?_
  refine q_istoren (pc' := 5) (L' := [(3, q_i 0), (2, q_i (-6)), (0, q_r Γ 150), (1, q_i r)]) dX9_mostBlamed_4 rfl rfl (by decide) rfl ?_
  refine q_iconst (pc' := 6) dX9_mostBlamed_5 rfl ?_
  refine q_istore (pc' := 8) (L' := [(4, q_i 0), (3, q_i 0), (2, q_i (-6)), (0, q_r Γ 150), (1, q_i r)]) dX9_mostBlamed_6 rfl (by decide) rfl ?_
  have qlp_8 : ∀ (qn_8 : Nat) (best most k : Int), (0 ≤ k) → (k ≤ S 151 0) → (best = (s_mbN (S 151) r k.toNat).1) → (most = (s_mbN (S 151) r k.toNat).2) → ((6 - k).toNat) = qn_8 → q_Go Γ mX9_mostBlamed 7 0 0 8 [(0, q_r Γ 150), (1, q_i r), (2, q_i best), (3, q_i most), (4, q_i k)] [] (KC, S) (q_ev (some (q_i (s_mb (S 151) r))) (KC, S)) := by
    intro qn_8
    induction qn_8 using Nat.strongRecOn with
    | ind qn_8 qih_8 =>
      intro best most k qa_8_0 qa_8_1 qa_8_2 qa_8_3 qhn_8
      subst qhn_8
      have bb := s_mbN_b (φ := S 151) (r := r) k.toNat
      rw [← qa_8_3] at bb
      refine q_iload (pc' := 10) 4 dX9_mostBlamed_8 rfl rfl ?_
      refine q_aloadn (pc' := 11) 0 dX9_mostBlamed_10 rfl rfl ?_
      refine p_getR (pc' := 14) (f := 151) dX9_mostBlamed_11 rfl fX9_7 kc150 rfl ?_
      refine q_iconst (pc' := 15) dX9_mostBlamed_14 rfl ?_
      refine p_iald (pc' := 16) dX9_mostBlamed_15 rfl kc151 (by first | assumption | omega) (by first | assumption | omega) (by decide) (fun qy_15 eqy_15 rqy_15 => ?_)
      refine q_icmp_ge (tgt := 60) (pc' := 19) dX9_mostBlamed_16 rfl rfl (by first | assumption | omega) (by first | assumption | omega) (fun qc_16 => ?_) (fun qc_16 => ?_)
      · refine q_iloadn (pc' := 61) 2 dX9_mostBlamed_60 rfl rfl ?_
        refine p_iret dX9_mostBlamed_61 rfl ?_ ?_
        · rw [qa_8_2, show k = S 151 0 by omega]; rfl
        · rfl
      · have sb := s_blh_b (φ := S 151) r k
        refine q_aloadn (pc' := 20) 0 dX9_mostBlamed_19 rfl rfl ?_
        refine q_iloadn (pc' := 21) 1 dX9_mostBlamed_20 rfl rfl ?_
        refine q_iload (pc' := 23) 4 dX9_mostBlamed_21 rfl rfl ?_
        refine q_callVI (pc' := 26) dX9_mostBlamed_23 rfl lX9_164 iX9_blamedHours kc150 rfl (c_X9_blamedHours (by first | assumption | omega) (by first | assumption | omega) (by first | assumption | omega) (by first | assumption | omega) (by first | assumption | omega)) rfl rfl (Nat.le_of_ble_eq_true rfl) (Nat.le_of_ble_eq_true rfl) (Nat.le_of_ble_eq_true rfl) ?_
        refine q_istore (pc' := 28) (L' := [(5, q_i (s_blh (S 151) r k)), (0, q_r Γ 150), (1, q_i r), (2, q_i best), (3, q_i most), (4, q_i k)]) dX9_mostBlamed_26 rfl (by decide) rfl ?_
        refine q_iload (pc' := 30) 0 dX9_mostBlamed_28 rfl rfl ?_
        refine q_iloadn (pc' := 31) 4 dX9_mostBlamed_30 rfl rfl ?_
        refine q_icmp_le (tgt := 39) (pc' := 34) dX9_mostBlamed_31 rfl rfl (by first | assumption | omega) (by first | assumption | omega) (fun qc_31 => ?_) (fun qc_31 => ?_)
        · refine q_iloadn (pc' := 40) 3 dX9_mostBlamed_39 rfl rfl ?_
          refine q_istoren (pc' := 41) (L' := [(2, q_i best), (5, q_i (s_blh (S 151) r k)), (0, q_r Γ 150), (1, q_i r), (3, q_i most), (4, q_i k)]) dX9_mostBlamed_40 rfl rfl (by decide) rfl ?_
          refine q_iload (pc' := 43) 1 dX9_mostBlamed_41 rfl rfl ?_
          refine q_iloadn (pc' := 44) 4 dX9_mostBlamed_43 rfl rfl ?_
          refine q_icmp_le (tgt := 52) (pc' := 47) dX9_mostBlamed_44 rfl rfl (by first | assumption | omega) (by first | assumption | omega) (fun qc_44 => ?_) (fun qc_44 => ?_)
          · refine q_iloadn (pc' := 53) 4 dX9_mostBlamed_52 rfl rfl ?_
            refine q_istoren (pc' := 54) (L' := [(3, q_i most), (2, q_i best), (5, q_i (s_blh (S 151) r k)), (0, q_r Γ 150), (1, q_i r), (4, q_i k)]) dX9_mostBlamed_53 rfl rfl (by decide) rfl ?_
            refine q_iinc (pc' := 57) 5 (L' := [(4, q_i (k + 1)), (3, q_i most), (2, q_i best), (5, q_i (s_blh (S 151) r k)), (0, q_r Γ 150), (1, q_i r)]) dX9_mostBlamed_54 rfl rfl (by decide) rfl ?_
            refine q_goto (pc' := 8) dX9_mostBlamed_57 rfl ?_
            refine p_sub [4, 5, 2, 1, 0] rfl ?_
            exact qih_8 _ (by omega) _ _ _ (by first | assumption | omega) (by first | assumption | omega) (by rw [s_mbN_s (by omega), ← qa_8_2, ← qa_8_3]; first | exact (q_if_t (by omega)).symm | exact (q_if_f (by omega)).symm) (by rw [s_mbN_s (by omega), ← qa_8_2, ← qa_8_3]; first | exact (q_if_t (by omega)).symm | exact (q_if_f (by omega)).symm) rfl
          · refine q_iload (pc' := 49) 1 dX9_mostBlamed_47 rfl rfl ?_
            refine q_goto (pc' := 53) dX9_mostBlamed_49 rfl ?_
            refine q_istoren (pc' := 54) (L' := [(3, q_i (s_blh (S 151) r k)), (2, q_i best), (5, q_i (s_blh (S 151) r k)), (0, q_r Γ 150), (1, q_i r), (4, q_i k)]) dX9_mostBlamed_53 rfl rfl (by decide) rfl ?_
            refine q_iinc (pc' := 57) 5 (L' := [(4, q_i (k + 1)), (3, q_i (s_blh (S 151) r k)), (2, q_i best), (5, q_i (s_blh (S 151) r k)), (0, q_r Γ 150), (1, q_i r)]) dX9_mostBlamed_54 rfl rfl (by decide) rfl ?_
            refine q_goto (pc' := 8) dX9_mostBlamed_57 rfl ?_
            refine p_sub [4, 5, 2, 1, 0] rfl ?_
            exact qih_8 _ (by omega) _ _ _ (by first | assumption | omega) (by first | assumption | omega) (by rw [s_mbN_s (by omega), ← qa_8_2, ← qa_8_3]; first | exact (q_if_t (by omega)).symm | exact (q_if_f (by omega)).symm) (by rw [s_mbN_s (by omega), ← qa_8_2, ← qa_8_3]; first | exact (q_if_t (by omega)).symm | exact (q_if_f (by omega)).symm) rfl
        · refine q_iload (pc' := 36) 5 dX9_mostBlamed_34 rfl rfl ?_
          refine q_goto (pc' := 40) dX9_mostBlamed_36 rfl ?_
          refine q_istoren (pc' := 41) (L' := [(2, q_i k), (5, q_i (s_blh (S 151) r k)), (0, q_r Γ 150), (1, q_i r), (3, q_i most), (4, q_i k)]) dX9_mostBlamed_40 rfl rfl (by decide) rfl ?_
          refine q_iload (pc' := 43) 1 dX9_mostBlamed_41 rfl rfl ?_
          refine q_iloadn (pc' := 44) 4 dX9_mostBlamed_43 rfl rfl ?_
          refine q_icmp_le (tgt := 52) (pc' := 47) dX9_mostBlamed_44 rfl rfl (by first | assumption | omega) (by first | assumption | omega) (fun qc_44_1 => ?_) (fun qc_44_1 => ?_)
          · refine q_iloadn (pc' := 53) 4 dX9_mostBlamed_52 rfl rfl ?_
            refine q_istoren (pc' := 54) (L' := [(3, q_i most), (2, q_i k), (5, q_i (s_blh (S 151) r k)), (0, q_r Γ 150), (1, q_i r), (4, q_i k)]) dX9_mostBlamed_53 rfl rfl (by decide) rfl ?_
            refine q_iinc (pc' := 57) 5 (L' := [(4, q_i (k + 1)), (3, q_i most), (2, q_i k), (5, q_i (s_blh (S 151) r k)), (0, q_r Γ 150), (1, q_i r)]) dX9_mostBlamed_54 rfl rfl (by decide) rfl ?_
            refine q_goto (pc' := 8) dX9_mostBlamed_57 rfl ?_
            refine p_sub [4, 5, 2, 1, 0] rfl ?_
            exact qih_8 _ (by omega) _ _ _ (by first | assumption | omega) (by first | assumption | omega) (by rw [s_mbN_s (by omega), ← qa_8_2, ← qa_8_3]; first | exact (q_if_t (by omega)).symm | exact (q_if_f (by omega)).symm) (by rw [s_mbN_s (by omega), ← qa_8_2, ← qa_8_3]; first | exact (q_if_t (by omega)).symm | exact (q_if_f (by omega)).symm) rfl
          · refine q_iload (pc' := 49) 1 dX9_mostBlamed_47 rfl rfl ?_
            refine q_goto (pc' := 53) dX9_mostBlamed_49 rfl ?_
            refine q_istoren (pc' := 54) (L' := [(3, q_i (s_blh (S 151) r k)), (2, q_i k), (5, q_i (s_blh (S 151) r k)), (0, q_r Γ 150), (1, q_i r), (4, q_i k)]) dX9_mostBlamed_53 rfl rfl (by decide) rfl ?_
            refine q_iinc (pc' := 57) 5 (L' := [(4, q_i (k + 1)), (3, q_i (s_blh (S 151) r k)), (2, q_i k), (5, q_i (s_blh (S 151) r k)), (0, q_r Γ 150), (1, q_i r)]) dX9_mostBlamed_54 rfl rfl (by decide) rfl ?_
            refine q_goto (pc' := 8) dX9_mostBlamed_57 rfl ?_
            refine p_sub [4, 5, 2, 1, 0] rfl ?_
            exact qih_8 _ (by omega) _ _ _ (by first | assumption | omega) (by first | assumption | omega) (by rw [s_mbN_s (by omega), ← qa_8_2, ← qa_8_3]; first | exact (q_if_t (by omega)).symm | exact (q_if_f (by omega)).symm) (by rw [s_mbN_s (by omega), ← qa_8_2, ← qa_8_3]; first | exact (q_if_t (by omega)).symm | exact (q_if_f (by omega)).symm) rfl
  refine p_sub [3, 4, 2, 1, 0] rfl ?_
  exact qlp_8 _ _ _ _ (by first | assumption | omega) (by first | assumption | omega) (by rfl) (by rfl) rfl
set_option maxRecDepth 20000 in
set_option maxHeartbeats 4000000 in
theorem c_X9_ofRow {Γ : q_G} {S : q_S} {r w : Int} (ok : s_ok (S 151)) (rr : q_rg r) (wr : q_rg w) : q_Sp Γ mX9_ofRow 9 0 0 [q_r Γ 150, q_i r, q_i w] (KC, S) (q_ev (some (q_i (s_ofRow (S 151) r w))) (KC, S)) := by
  show q_Go Γ mX9_ofRow 9 0 0 0 [(0, q_r Γ 150), (1, q_i r), (2, q_i w)] [] (KC, S) (q_ev (some (q_i (s_ofRow (S 151) r w))) (KC, S))
  have rw0 := s_rows_b ok
  refine q_aloadn (pc' := 1) 0 dX9_ofRow_0 rfl rfl ?_
  refine q_iloadn (pc' := 2) 1 dX9_ofRow_1 rfl rfl ?_
  refine q_callVI (pc' := 5) dX9_ofRow_2 rfl lX9_102 iX9_isRow kc150 rfl (c_X9_isRow (by first | assumption | omega) (by first | assumption | omega)) rfl rfl (Nat.le_of_ble_eq_true rfl) (Nat.le_of_ble_eq_true rfl) (Nat.le_of_ble_eq_true rfl) ?_
  refine q_if_ne_B (tgt := 10) (pc' := 8) dX9_ofRow_5 rfl rfl (fun qc_5 => ?_) (fun qc_5 => ?_)
  · refine q_iloadn (pc' := 11) 2 dX9_ofRow_10 rfl rfl ?_
    by_cases qs_11 : w = 0
    · subst qs_11
      refine q_tableIn (pc' := 60) dX9_ofRow_11 (by decide) (by decide) (by decide) rfl rfl ?_
      refine q_aloadn (pc' := 61) 0 dX9_ofRow_60 rfl rfl ?_
      refine q_iloadn (pc' := 62) 1 dX9_ofRow_61 rfl rfl ?_
      refine q_iloadn (pc' := 63) 2 dX9_ofRow_62 rfl rfl ?_
      refine q_callVI (pc' := 66) dX9_ofRow_63 rfl lX9_46 iX9_part kc150 rfl (c_X9_part (by first | assumption | omega) (by first | assumption | omega)) rfl rfl (Nat.le_of_ble_eq_true rfl) (Nat.le_of_ble_eq_true rfl) (Nat.le_of_ble_eq_true rfl) ?_
      refine p_iret dX9_ofRow_66 rfl ?_ ?_
      · unfold s_ofRow; omega
      · rfl
    · by_cases qs_11_1 : w = 1
      · subst qs_11_1
        refine q_tableIn (pc' := 60) dX9_ofRow_11 (by decide) (by decide) (by decide) rfl rfl ?_
        refine q_aloadn (pc' := 61) 0 dX9_ofRow_60 rfl rfl ?_
        refine q_iloadn (pc' := 62) 1 dX9_ofRow_61 rfl rfl ?_
        refine q_iloadn (pc' := 63) 2 dX9_ofRow_62 rfl rfl ?_
        refine q_callVI (pc' := 66) dX9_ofRow_63 rfl lX9_46 iX9_part kc150 rfl (c_X9_part (by first | assumption | omega) (by first | assumption | omega)) rfl rfl (Nat.le_of_ble_eq_true rfl) (Nat.le_of_ble_eq_true rfl) (Nat.le_of_ble_eq_true rfl) ?_
        refine p_iret dX9_ofRow_66 rfl ?_ ?_
        · unfold s_ofRow; omega
        · rfl
      · by_cases qs_11_2 : w = 2
        · subst qs_11_2
          refine q_tableIn (pc' := 60) dX9_ofRow_11 (by decide) (by decide) (by decide) rfl rfl ?_
          refine q_aloadn (pc' := 61) 0 dX9_ofRow_60 rfl rfl ?_
          refine q_iloadn (pc' := 62) 1 dX9_ofRow_61 rfl rfl ?_
          refine q_iloadn (pc' := 63) 2 dX9_ofRow_62 rfl rfl ?_
          refine q_callVI (pc' := 66) dX9_ofRow_63 rfl lX9_46 iX9_part kc150 rfl (c_X9_part (by first | assumption | omega) (by first | assumption | omega)) rfl rfl (Nat.le_of_ble_eq_true rfl) (Nat.le_of_ble_eq_true rfl) (Nat.le_of_ble_eq_true rfl) ?_
          refine p_iret dX9_ofRow_66 rfl ?_ ?_
          · unfold s_ofRow; omega
          · rfl
        · by_cases qs_11_3 : w = 3
          · subst qs_11_3
            refine q_tableIn (pc' := 67) dX9_ofRow_11 (by decide) (by decide) (by decide) rfl rfl ?_
            refine q_aloadn (pc' := 68) 0 dX9_ofRow_67 rfl rfl ?_
            refine q_iloadn (pc' := 69) 1 dX9_ofRow_68 rfl rfl ?_
            refine q_iconst (pc' := 70) dX9_ofRow_69 rfl ?_
            refine q_callVI (pc' := 73) dX9_ofRow_70 rfl lX9_46 iX9_part kc150 rfl (c_X9_part (by first | assumption | omega) (by first | assumption | omega)) rfl rfl (Nat.le_of_ble_eq_true rfl) (Nat.le_of_ble_eq_true rfl) (Nat.le_of_ble_eq_true rfl) ?_
            refine q_ldc (pc' := 75) dX9_ofRow_73 rfl wX9_167 ?_
            refine q_iadd (pc' := 76) dX9_ofRow_75 rfl ?_
            refine p_iret dX9_ofRow_76 rfl ?_ ?_
            · unfold s_ofRow; omega
            · rfl
          · by_cases qs_11_4 : w = 4
            · subst qs_11_4
              refine q_tableIn (pc' := 77) dX9_ofRow_11 (by decide) (by decide) (by decide) rfl rfl ?_
              refine q_aloadn (pc' := 78) 0 dX9_ofRow_77 rfl rfl ?_
              refine q_iloadn (pc' := 79) 1 dX9_ofRow_78 rfl rfl ?_
              refine q_callVI (pc' := 82) dX9_ofRow_79 rfl lX9_93 iX9_yieldOf kc150 rfl (c_X9_yieldOf (by first | assumption | omega) (by first | assumption | omega) (by first | assumption | omega)) rfl rfl (Nat.le_of_ble_eq_true rfl) (Nat.le_of_ble_eq_true rfl) (Nat.le_of_ble_eq_true rfl) ?_
              refine p_iret dX9_ofRow_82 rfl ?_ ?_
              · unfold s_ofRow; omega
              · rfl
            · by_cases qs_11_5 : w = 5
              · subst qs_11_5
                refine q_tableIn (pc' := 83) dX9_ofRow_11 (by decide) (by decide) (by decide) rfl rfl ?_
                refine q_aloadn (pc' := 84) 0 dX9_ofRow_83 rfl rfl ?_
                refine q_iloadn (pc' := 85) 1 dX9_ofRow_84 rfl rfl ?_
                refine q_callVI (pc' := 88) dX9_ofRow_85 rfl lX9_168 iX9_fullYield kc150 rfl (c_X9_fullYield (by first | assumption | omega) (by first | assumption | omega) (by first | assumption | omega)) rfl rfl (Nat.le_of_ble_eq_true rfl) (Nat.le_of_ble_eq_true rfl) (Nat.le_of_ble_eq_true rfl) ?_
                refine p_iret dX9_ofRow_88 rfl ?_ ?_
                · unfold s_ofRow; omega
                · rfl
              · by_cases qs_11_6 : w = 6
                · subst qs_11_6
                  refine q_tableIn (pc' := 89) dX9_ofRow_11 (by decide) (by decide) (by decide) rfl rfl ?_
                  refine q_aloadn (pc' := 90) 0 dX9_ofRow_89 rfl rfl ?_
                  refine q_iloadn (pc' := 91) 1 dX9_ofRow_90 rfl rfl ?_
                  refine q_callVI (pc' := 94) dX9_ofRow_91 rfl lX9_171 iX9_lowHours kc150 rfl (c_X9_lowHours (by first | assumption | omega) (by first | assumption | omega) (by first | assumption | omega)) rfl rfl (Nat.le_of_ble_eq_true rfl) (Nat.le_of_ble_eq_true rfl) (Nat.le_of_ble_eq_true rfl) ?_
                  refine p_iret dX9_ofRow_94 rfl ?_ ?_
                  · unfold s_ofRow; omega
                  · rfl
                · by_cases qs_11_7 : w = 7
                  · subst qs_11_7
                    refine q_tableIn (pc' := 95) dX9_ofRow_11 (by decide) (by decide) (by decide) rfl rfl ?_
                    refine q_aloadn (pc' := 96) 0 dX9_ofRow_95 rfl rfl ?_
                    refine q_iloadn (pc' := 97) 1 dX9_ofRow_96 rfl rfl ?_
                    refine q_callVI (pc' := 100) dX9_ofRow_97 rfl lX9_174 iX9_shadeHours kc150 rfl (c_X9_shadeHours (by first | assumption | omega) (by first | assumption | omega) (by first | assumption | omega)) rfl rfl (Nat.le_of_ble_eq_true rfl) (Nat.le_of_ble_eq_true rfl) (Nat.le_of_ble_eq_true rfl) ?_
                    refine p_iret dX9_ofRow_100 rfl ?_ ?_
                    · unfold s_ofRow; omega
                    · rfl
                  · by_cases qs_11_8 : w = 8
                    · subst qs_11_8
                      refine q_tableIn (pc' := 101) dX9_ofRow_11 (by decide) (by decide) (by decide) rfl rfl ?_
                      refine q_aloadn (pc' := 102) 0 dX9_ofRow_101 rfl rfl ?_
                      refine q_iloadn (pc' := 103) 1 dX9_ofRow_102 rfl rfl ?_
                      refine q_callVI (pc' := 106) dX9_ofRow_103 rfl lX9_177 iX9_mostBlamed kc150 rfl (c_X9_mostBlamed (by first | assumption | omega) (by first | assumption | omega) (by first | assumption | omega)) rfl rfl (Nat.le_of_ble_eq_true rfl) (Nat.le_of_ble_eq_true rfl) (Nat.le_of_ble_eq_true rfl) ?_
                      refine p_iret dX9_ofRow_106 rfl ?_ ?_
                      · unfold s_ofRow; omega
                      · rfl
                    · refine q_tableOut (pc' := 107) dX9_ofRow_11 (by first | assumption | omega) (by omega) rfl ?_
                      refine q_bipush (pc' := 109) dX9_ofRow_107 rfl rfl ?_
                      refine p_iret dX9_ofRow_109 rfl ?_ ?_
                      · unfold s_ofRow; omega
                      · rfl
  · refine q_iconst (pc' := 9) dX9_ofRow_8 rfl ?_
    refine p_iret dX9_ofRow_9 rfl ?_ ?_
    · unfold s_ofRow; omega
    · rfl
set_option maxRecDepth 20000 in
set_option maxHeartbeats 4000000 in
theorem c_X9_inHour {Γ : q_G} {S : q_S} {r h w : Int} (ok : s_ok (S 151)) (rr : q_rg r) (hr : q_rg h) (wr : q_rg w) : q_Sp Γ mX9_inHour 8 0 0 [q_r Γ 150, q_i r, q_i h, q_i w] (KC, S) (q_ev (some (q_i (s_inHour (S 151) r h w))) (KC, S)) := by
  show q_Go Γ mX9_inHour 8 0 0 0 [(0, q_r Γ 150), (1, q_i r), (2, q_i h), (3, q_i w)] [] (KC, S) (q_ev (some (q_i (s_inHour (S 151) r h w))) (KC, S))
  have rw0 := s_rows_b ok
  refine q_aloadn (pc' := 1) 0 dX9_inHour_0 rfl rfl ?_
  refine q_iloadn (pc' := 2) 1 dX9_inHour_1 rfl rfl ?_
  refine q_callVI (pc' := 5) dX9_inHour_2 rfl lX9_102 iX9_isRow kc150 rfl (c_X9_isRow (by first | assumption | omega) (by first | assumption | omega)) rfl rfl (Nat.le_of_ble_eq_true rfl) (Nat.le_of_ble_eq_true rfl) (Nat.le_of_ble_eq_true rfl) ?_
  refine q_if_eq_B (tgt := 15) (pc' := 8) dX9_inHour_5 rfl rfl (fun qc_5 => ?_) (fun qc_5 => ?_)
  · refine q_iconst (pc' := 16) dX9_inHour_15 rfl ?_
    refine p_iret dX9_inHour_16 rfl ?_ ?_
    · unfold s_inHour; omega
    · rfl
  · refine q_iloadn (pc' := 9) 2 dX9_inHour_8 rfl rfl ?_
    refine q_callSI (pc' := 12) dX9_inHour_9 rfl lX9_111 iX9_isHour (c_X9_isHour (by first | assumption | omega)) rfl rfl (Nat.le_of_ble_eq_true rfl) (Nat.le_of_ble_eq_true rfl) (Nat.le_of_ble_eq_true rfl) ?_
    refine q_if_ne_B (tgt := 17) (pc' := 15) dX9_inHour_12 rfl rfl (fun qc_12 => ?_) (fun qc_12 => ?_)
    · refine q_iloadn (pc' := 18) 3 dX9_inHour_17 rfl rfl ?_
      by_cases qs_18 : w = 0
      · subst qs_18
        refine q_tableIn (pc' := 52) dX9_inHour_18 (by decide) (by decide) (by decide) rfl rfl ?_
        have pa := s_pt_b ok (r := r) (by omega) (by omega)
        refine q_aloadn (pc' := 53) 0 dX9_inHour_52 rfl rfl ?_
        refine q_iloadn (pc' := 54) 1 dX9_inHour_53 rfl rfl ?_
        refine q_aloadn (pc' := 55) 0 dX9_inHour_54 rfl rfl ?_
        refine q_iloadn (pc' := 56) 1 dX9_inHour_55 rfl rfl ?_
        refine q_iconst (pc' := 57) dX9_inHour_56 rfl ?_
        refine q_callVI (pc' := 60) dX9_inHour_57 rfl lX9_46 iX9_part kc150 rfl (c_X9_part (by first | assumption | omega) (by first | assumption | omega)) rfl rfl (Nat.le_of_ble_eq_true rfl) (Nat.le_of_ble_eq_true rfl) (Nat.le_of_ble_eq_true rfl) ?_
        refine q_iloadn (pc' := 61) 2 dX9_inHour_60 rfl rfl ?_
        refine q_callVI (pc' := 64) dX9_inHour_61 rfl lX9_69 iX9_tiltIn kc150 rfl (c_X9_tiltIn (by first | assumption | omega) (by first | assumption | omega) (by first | assumption | omega) (by first | assumption | omega) (by first | assumption | omega) (by first | assumption | omega) (by first | assumption | omega)) rfl rfl (Nat.le_of_ble_eq_true rfl) (Nat.le_of_ble_eq_true rfl) (Nat.le_of_ble_eq_true rfl) ?_
        refine p_iret dX9_inHour_64 rfl ?_ ?_
        · unfold s_inHour; omega
        · rfl
      · by_cases qs_18_1 : w = 1
        · subst qs_18_1
          refine q_tableIn (pc' := 65) dX9_inHour_18 (by decide) (by decide) (by decide) rfl rfl ?_
          refine q_aloadn (pc' := 66) 0 dX9_inHour_65 rfl rfl ?_
          refine q_iloadn (pc' := 67) 1 dX9_inHour_66 rfl rfl ?_
          refine q_iloadn (pc' := 68) 2 dX9_inHour_67 rfl rfl ?_
          refine q_callVI (pc' := 71) dX9_inHour_68 rfl lX9_81 iX9_heightIn kc150 rfl (c_X9_heightIn (by first | assumption | omega) (by first | assumption | omega) (by first | assumption | omega) (by first | assumption | omega) (by first | assumption | omega)) rfl rfl (Nat.le_of_ble_eq_true rfl) (Nat.le_of_ble_eq_true rfl) (Nat.le_of_ble_eq_true rfl) ?_
          refine p_iret dX9_inHour_71 rfl ?_ ?_
          · unfold s_inHour; omega
          · rfl
        · by_cases qs_18_2 : w = 2
          · subst qs_18_2
            refine q_tableIn (pc' := 72) dX9_inHour_18 (by decide) (by decide) (by decide) rfl rfl ?_
            refine q_aloadn (pc' := 73) 0 dX9_inHour_72 rfl rfl ?_
            refine q_iloadn (pc' := 74) 1 dX9_inHour_73 rfl rfl ?_
            refine q_iloadn (pc' := 75) 2 dX9_inHour_74 rfl rfl ?_
            refine q_callVI (pc' := 78) dX9_inHour_75 rfl lX9_84 iX9_shadeOf kc150 rfl (c_X9_shadeOf (by first | assumption | omega) (by first | assumption | omega) (by first | assumption | omega) (by first | assumption | omega) (by first | assumption | omega)) rfl rfl (Nat.le_of_ble_eq_true rfl) (Nat.le_of_ble_eq_true rfl) (Nat.le_of_ble_eq_true rfl) ?_
            refine p_iret dX9_inHour_78 rfl ?_ ?_
            · unfold s_inHour; omega
            · rfl
          · by_cases qs_18_3 : w = 3
            · subst qs_18_3
              refine q_tableIn (pc' := 79) dX9_inHour_18 (by decide) (by decide) (by decide) rfl rfl ?_
              refine q_aloadn (pc' := 80) 0 dX9_inHour_79 rfl rfl ?_
              refine q_iloadn (pc' := 81) 1 dX9_inHour_80 rfl rfl ?_
              refine q_iloadn (pc' := 82) 2 dX9_inHour_81 rfl rfl ?_
              refine q_callVI (pc' := 85) dX9_inHour_82 rfl lX9_78 iX9_blamed kc150 rfl (c_X9_blamed (by first | assumption | omega) (by first | assumption | omega) (by first | assumption | omega) (by first | assumption | omega) (by first | assumption | omega)) rfl rfl (Nat.le_of_ble_eq_true rfl) (Nat.le_of_ble_eq_true rfl) (Nat.le_of_ble_eq_true rfl) ?_
              refine p_iret dX9_inHour_85 rfl ?_ ?_
              · unfold s_inHour; omega
              · rfl
            · by_cases qs_18_4 : w = 4
              · subst qs_18_4
                refine q_tableIn (pc' := 86) dX9_inHour_18 (by decide) (by decide) (by decide) rfl rfl ?_
                refine q_aloadn (pc' := 87) 0 dX9_inHour_86 rfl rfl ?_
                refine q_iloadn (pc' := 88) 1 dX9_inHour_87 rfl rfl ?_
                refine q_iloadn (pc' := 89) 2 dX9_inHour_88 rfl rfl ?_
                refine q_callVI (pc' := 92) dX9_inHour_89 rfl lX9_90 iX9_yieldIn kc150 rfl (c_X9_yieldIn (by first | assumption | omega) (by first | assumption | omega) (by first | assumption | omega) (by first | assumption | omega) (by first | assumption | omega)) rfl rfl (Nat.le_of_ble_eq_true rfl) (Nat.le_of_ble_eq_true rfl) (Nat.le_of_ble_eq_true rfl) ?_
                refine p_iret dX9_inHour_92 rfl ?_ ?_
                · unfold s_inHour; omega
                · rfl
              · refine q_tableOut (pc' := 93) dX9_inHour_18 (by first | assumption | omega) (by omega) rfl ?_
                refine q_bipush (pc' := 95) dX9_inHour_93 rfl rfl ?_
                refine p_iret dX9_inHour_95 rfl ?_ ?_
                · unfold s_inHour; omega
                · rfl
    · refine q_iconst (pc' := 16) dX9_inHour_15 rfl ?_
      refine p_iret dX9_inHour_16 rfl ?_ ?_
      · unfold s_inHour; omega
      · rfl
set_option maxRecDepth 20000 in
set_option maxHeartbeats 4000000 in
theorem c_X9_over {Γ : q_G} {S : q_S} {a b h w : Int} (ok : s_ok (S 151)) (ar : q_rg a) (br : q_rg b) (hr : q_rg h) (wr : q_rg w) : q_Sp Γ mX9_over 5 0 0 [q_r Γ 150, q_i a, q_i b, q_i h, q_i w] (KC, S) (q_ev (some (q_i (s_over (S 151) a b h w))) (KC, S)) := by
  show q_Go Γ mX9_over 5 0 0 0 [(0, q_r Γ 150), (1, q_i a), (2, q_i b), (3, q_i h), (4, q_i w)] [] (KC, S) (q_ev (some (q_i (s_over (S 151) a b h w))) (KC, S))
  have rw0 := s_rows_b ok
  refine q_aloadn (pc' := 1) 0 dX9_over_0 rfl rfl ?_
  refine q_iloadn (pc' := 2) 1 dX9_over_1 rfl rfl ?_
  refine q_callVI (pc' := 5) dX9_over_2 rfl lX9_102 iX9_isRow kc150 rfl (c_X9_isRow (by first | assumption | omega) (by first | assumption | omega)) rfl rfl (Nat.le_of_ble_eq_true rfl) (Nat.le_of_ble_eq_true rfl) (Nat.le_of_ble_eq_true rfl) ?_
  refine q_if_eq_B (tgt := 23) (pc' := 8) dX9_over_5 rfl rfl (fun qc_5 => ?_) (fun qc_5 => ?_)
  · refine q_iconst (pc' := 24) dX9_over_23 rfl ?_
    refine p_iret dX9_over_24 rfl ?_ ?_
    · unfold s_over; omega
    · rfl
  · refine q_aloadn (pc' := 9) 0 dX9_over_8 rfl rfl ?_
    refine q_iloadn (pc' := 10) 2 dX9_over_9 rfl rfl ?_
    refine q_callVI (pc' := 13) dX9_over_10 rfl lX9_102 iX9_isRow kc150 rfl (c_X9_isRow (by first | assumption | omega) (by first | assumption | omega)) rfl rfl (Nat.le_of_ble_eq_true rfl) (Nat.le_of_ble_eq_true rfl) (Nat.le_of_ble_eq_true rfl) ?_
    refine q_if_eq_B (tgt := 23) (pc' := 16) dX9_over_13 rfl rfl (fun qc_13 => ?_) (fun qc_13 => ?_)
    · refine q_iconst (pc' := 24) dX9_over_23 rfl ?_
      refine p_iret dX9_over_24 rfl ?_ ?_
      · unfold s_over; omega
      · rfl
    · refine q_iloadn (pc' := 17) 3 dX9_over_16 rfl rfl ?_
      refine q_callSI (pc' := 20) dX9_over_17 rfl lX9_111 iX9_isHour (c_X9_isHour (by first | assumption | omega)) rfl rfl (Nat.le_of_ble_eq_true rfl) (Nat.le_of_ble_eq_true rfl) (Nat.le_of_ble_eq_true rfl) ?_
      refine q_if_ne_B (tgt := 25) (pc' := 23) dX9_over_20 rfl rfl (fun qc_20 => ?_) (fun qc_20 => ?_)
      · refine q_iloadn (pc' := 26) 1 dX9_over_25 rfl rfl ?_
        refine q_iloadn (pc' := 27) 2 dX9_over_26 rfl rfl ?_
        refine q_icmp_eq (tgt := 40) (pc' := 30) dX9_over_27 rfl rfl (by first | assumption | omega) (by first | assumption | omega) (fun qc_27 => ?_) (fun qc_27 => ?_)
        · refine q_bipush (pc' := 42) dX9_over_40 rfl rfl ?_
          refine p_iret dX9_over_42 rfl ?_ ?_
          · unfold s_over; omega
          · rfl
        · refine q_iload (pc' := 32) 4 dX9_over_30 rfl rfl ?_
          refine q_iconst (pc' := 33) dX9_over_32 rfl ?_
          refine q_iconst (pc' := 34) dX9_over_33 rfl ?_
          refine q_callSI (pc' := 37) dX9_over_34 rfl lX9_42 iX9_within (c_X9_within (by first | assumption | omega) (by first | assumption | omega) (by first | assumption | omega)) rfl rfl (Nat.le_of_ble_eq_true rfl) (Nat.le_of_ble_eq_true rfl) (Nat.le_of_ble_eq_true rfl) ?_
          refine q_if_ne_B (tgt := 43) (pc' := 40) dX9_over_37 rfl rfl (fun qc_37 => ?_) (fun qc_37 => ?_)
          · refine q_iload (pc' := 45) 4 dX9_over_43 rfl rfl ?_
            refine q_if_ne (tgt := 58) (pc' := 48) dX9_over_45 rfl rfl (by first | assumption | omega) (fun qc_45 => ?_) (fun qc_45 => ?_)
            · refine q_iload (pc' := 60) 4 dX9_over_58 rfl rfl ?_
              refine q_iconst (pc' := 61) dX9_over_60 rfl ?_
              refine q_icmp_ne (tgt := 74) (pc' := 64) dX9_over_61 rfl rfl (by first | assumption | omega) (by decide) (fun qc_61 => ?_) (fun qc_61 => ?_)
              · have pa := s_pt_b ok (r := a) (by omega) (by omega)
                refine q_aloadn (pc' := 75) 0 dX9_over_74 rfl rfl ?_
                refine q_iloadn (pc' := 76) 1 dX9_over_75 rfl rfl ?_
                refine q_aloadn (pc' := 77) 0 dX9_over_76 rfl rfl ?_
                refine q_iloadn (pc' := 78) 1 dX9_over_77 rfl rfl ?_
                refine q_iconst (pc' := 79) dX9_over_78 rfl ?_
                refine q_callVI (pc' := 82) dX9_over_79 rfl lX9_46 iX9_part kc150 rfl (c_X9_part (by first | assumption | omega) (by first | assumption | omega)) rfl rfl (Nat.le_of_ble_eq_true rfl) (Nat.le_of_ble_eq_true rfl) (Nat.le_of_ble_eq_true rfl) ?_
                refine q_iloadn (pc' := 83) 2 dX9_over_82 rfl rfl ?_
                refine q_iloadn (pc' := 84) 3 dX9_over_83 rfl rfl ?_
                refine q_callVI (pc' := 87) dX9_over_84 rfl lX9_54 iX9_shadow kc150 rfl (c_X9_shadow (by first | assumption | omega) (by first | assumption | omega) (by first | assumption | omega) (by first | assumption | omega) (by first | assumption | omega) (by first | assumption | omega) (by first | assumption | omega) (by first | assumption | omega) (by first | assumption | omega)) rfl rfl (Nat.le_of_ble_eq_true rfl) (Nat.le_of_ble_eq_true rfl) (Nat.le_of_ble_eq_true rfl) ?_
                refine p_iret dX9_over_87 rfl ?_ ?_
                · unfold s_over; omega
                · rfl
              · refine q_aloadn (pc' := 65) 0 dX9_over_64 rfl rfl ?_
                refine q_iloadn (pc' := 66) 1 dX9_over_65 rfl rfl ?_
                refine q_iloadn (pc' := 67) 2 dX9_over_66 rfl rfl ?_
                refine q_iloadn (pc' := 68) 3 dX9_over_67 rfl rfl ?_
                refine q_callVI (pc' := 71) dX9_over_68 rfl lX9_72 iX9_shadowIn kc150 rfl (c_X9_shadowIn (by first | assumption | omega) (by first | assumption | omega) (by first | assumption | omega) (by first | assumption | omega) (by first | assumption | omega) (by first | assumption | omega) (by first | assumption | omega)) rfl rfl (Nat.le_of_ble_eq_true rfl) (Nat.le_of_ble_eq_true rfl) (Nat.le_of_ble_eq_true rfl) ?_
                refine q_goto (pc' := 87) dX9_over_71 rfl ?_
                refine p_iret dX9_over_87 rfl ?_ ?_
                · unfold s_over; omega
                · rfl
            · refine q_aloadn (pc' := 49) 0 dX9_over_48 rfl rfl ?_
              refine q_iloadn (pc' := 50) 1 dX9_over_49 rfl rfl ?_
              refine q_iloadn (pc' := 51) 2 dX9_over_50 rfl rfl ?_
              refine q_iloadn (pc' := 52) 3 dX9_over_51 rfl rfl ?_
              refine q_callVI (pc' := 55) dX9_over_52 rfl lX9_58 iX9_rightOf kc150 rfl (c_X9_rightOf (by first | assumption | omega) (by first | assumption | omega)) rfl rfl (Nat.le_of_ble_eq_true rfl) (Nat.le_of_ble_eq_true rfl) (Nat.le_of_ble_eq_true rfl) ?_
              refine q_goto (pc' := 87) dX9_over_55 rfl ?_
              refine p_iret dX9_over_87 rfl ?_ ?_
              · unfold s_over; omega
              · rfl
          · refine q_bipush (pc' := 42) dX9_over_40 rfl rfl ?_
            refine p_iret dX9_over_42 rfl ?_ ?_
            · unfold s_over; omega
            · rfl
      · refine q_iconst (pc' := 24) dX9_over_23 rfl ?_
        refine p_iret dX9_over_24 rfl ?_ ?_
        · unfold s_over; omega
        · rfl
set_option maxRecDepth 20000 in
set_option maxHeartbeats 4000000 in
theorem c_X9_offer {Γ : q_G} {S : q_S} {k n w : Int} (ok : s_ok (S 151)) (kr : q_rg k) (nr : q_rg n) (wr : q_rg w) : q_Sp Γ mX9_offer 1 0 0 [q_r Γ 150, q_i k, q_i n, q_i w] (KC, S) (q_ev (some (q_i (s_offer (S 151) k n w))) (KC, S)) := by
  show q_Go Γ mX9_offer 1 0 0 0 [(0, q_r Γ 150), (1, q_i k), (2, q_i n), (3, q_i w)] [] (KC, S) (q_ev (some (q_i (s_offer (S 151) k n w))) (KC, S))
  have rw0 := s_rows_b ok
  refine q_iloadn (pc' := 1) 1 dX9_offer_0 rfl rfl ?_
  refine q_iconst (pc' := 2) dX9_offer_1 rfl ?_
  refine q_iconst (pc' := 3) dX9_offer_2 rfl ?_
  refine q_callSI (pc' := 6) dX9_offer_3 rfl lX9_42 iX9_within (c_X9_within (by first | assumption | omega) (by first | assumption | omega) (by first | assumption | omega)) rfl rfl (Nat.le_of_ble_eq_true rfl) (Nat.le_of_ble_eq_true rfl) (Nat.le_of_ble_eq_true rfl) ?_
  refine q_if_eq_B (tgt := 18) (pc' := 9) dX9_offer_6 rfl rfl (fun qc_6 => ?_) (fun qc_6 => ?_)
  · refine q_bipush (pc' := 20) dX9_offer_18 rfl rfl ?_
    refine p_iret dX9_offer_20 rfl ?_ ?_
    · unfold s_offer; omega
    · rfl
  · refine q_iloadn (pc' := 10) 3 dX9_offer_9 rfl rfl ?_
    refine q_iconst (pc' := 11) dX9_offer_10 rfl ?_
    refine q_iconst (pc' := 12) dX9_offer_11 rfl ?_
    refine q_callSI (pc' := 15) dX9_offer_12 rfl lX9_42 iX9_within (c_X9_within (by first | assumption | omega) (by first | assumption | omega) (by first | assumption | omega)) rfl rfl (Nat.le_of_ble_eq_true rfl) (Nat.le_of_ble_eq_true rfl) (Nat.le_of_ble_eq_true rfl) ?_
    refine q_if_ne_B (tgt := 21) (pc' := 18) dX9_offer_15 rfl rfl (fun qc_15 => ?_) (fun qc_15 => ?_)
    · have hk : 0 ≤ S 151 (3 + k) ∧ S 151 (3 + k) ≤ 10 := by rcases (show k = 0 ∨ k = 1 by omega) with rfl | rfl; exact ok.2.2.1; exact ok.2.2.2.1
      refine q_iloadn (pc' := 22) 2 dX9_offer_21 rfl rfl ?_
      refine q_iconst (pc' := 23) dX9_offer_22 rfl ?_
      refine q_aloadn (pc' := 24) 0 dX9_offer_23 rfl rfl ?_
      refine p_getR (pc' := 27) (f := 151) dX9_offer_24 rfl fX9_7 kc150 rfl ?_
      refine q_iconst (pc' := 28) dX9_offer_27 rfl ?_
      refine q_iloadn (pc' := 29) 1 dX9_offer_28 rfl rfl ?_
      refine q_iadd (pc' := 30) dX9_offer_29 rfl ?_
      refine p_iald (pc' := 31) dX9_offer_30 rfl kc151 (by first | assumption | omega) (by first | assumption | omega) (by decide) (fun qy_30 eqy_30 rqy_30 => ?_)
      refine q_iconst (pc' := 32) dX9_offer_31 rfl ?_
      refine q_isub (pc' := 33) dX9_offer_32 rfl ?_
      refine q_callSI (pc' := 36) dX9_offer_33 rfl lX9_42 iX9_within (c_X9_within (by first | assumption | omega) (by first | assumption | omega) (by first | assumption | omega)) rfl rfl (Nat.le_of_ble_eq_true rfl) (Nat.le_of_ble_eq_true rfl) (Nat.le_of_ble_eq_true rfl) ?_
      refine q_if_ne_B (tgt := 41) (pc' := 39) dX9_offer_36 rfl rfl (fun qc_36 => ?_) (fun qc_36 => ?_)
      · refine q_iloadn (pc' := 42) 1 dX9_offer_41 rfl rfl ?_
        refine q_iconst (pc' := 43) dX9_offer_42 rfl ?_
        refine q_icmp_ne (tgt := 55) (pc' := 46) dX9_offer_43 rfl rfl (by first | assumption | omega) (by decide) (fun qc_43 => ?_) (fun qc_43 => ?_)
        · refine q_iloadn (pc' := 56) 3 dX9_offer_55 rfl rfl ?_
          refine q_iconst (pc' := 57) dX9_offer_56 rfl ?_
          refine q_icmp_ne (tgt := 65) (pc' := 60) dX9_offer_57 rfl rfl (by first | assumption | omega) (by decide) (fun qc_57 => ?_) (fun qc_57 => ?_)
          · refine q_aloadn (pc' := 66) 0 dX9_offer_65 rfl rfl ?_
            refine q_iloadn (pc' := 67) 2 dX9_offer_66 rfl rfl ?_
            refine q_iloadn (pc' := 68) 3 dX9_offer_67 rfl rfl ?_
            refine q_callVI (pc' := 71) dX9_offer_68 rfl lX9_148 iX9_askPart kc150 rfl (c_X9_askPart (by first | assumption | omega) (by first | assumption | omega)) rfl rfl (Nat.le_of_ble_eq_true rfl) (Nat.le_of_ble_eq_true rfl) (Nat.le_of_ble_eq_true rfl) ?_
            refine p_iret dX9_offer_71 rfl ?_ ?_
            · unfold s_offer; omega
            · rfl
          · refine q_bipush (pc' := 62) dX9_offer_60 rfl rfl ?_
            refine q_goto (pc' := 71) dX9_offer_62 rfl ?_
            refine p_iret dX9_offer_71 rfl ?_ ?_
            · unfold s_offer; omega
            · rfl
        · refine q_aloadn (pc' := 47) 0 dX9_offer_46 rfl rfl ?_
          refine q_iloadn (pc' := 48) 2 dX9_offer_47 rfl rfl ?_
          refine q_iloadn (pc' := 49) 3 dX9_offer_48 rfl rfl ?_
          refine q_callVI (pc' := 52) dX9_offer_49 rfl lX9_145 iX9_bidPart kc150 rfl (c_X9_bidPart (by first | assumption | omega) (by first | assumption | omega)) rfl rfl (Nat.le_of_ble_eq_true rfl) (Nat.le_of_ble_eq_true rfl) (Nat.le_of_ble_eq_true rfl) ?_
          refine q_goto (pc' := 71) dX9_offer_52 rfl ?_
          refine p_iret dX9_offer_71 rfl ?_ ?_
          · unfold s_offer; omega
          · rfl
      · refine q_iconst (pc' := 40) dX9_offer_39 rfl ?_
        refine p_iret dX9_offer_40 rfl ?_ ?_
        · unfold s_offer; omega
        · rfl
    · refine q_bipush (pc' := 20) dX9_offer_18 rfl rfl ?_
      refine p_iret dX9_offer_20 rfl ?_ ?_
      · unfold s_offer; omega
      · rfl
set_option maxRecDepth 20000 in
set_option maxHeartbeats 4000000 in
theorem c_X9_count {Γ : q_G} {S : q_S} {w : Int} (ok : s_ok (S 151)) (wr : q_rg w) : q_Sp Γ mX9_count 10 0 0 [q_r Γ 150, q_i w] (KC, S) (q_ev (some (q_i (s_count (S 151) (S 150 6) (S 150 2) w))) (KC, S)) := by
  show q_Go Γ mX9_count 10 0 0 0 [(0, q_r Γ 150), (1, q_i w)] [] (KC, S) (q_ev (some (q_i (s_count (S 151) (S 150 6) (S 150 2) w))) (KC, S))
  have rw0 := s_rows_b ok
  refine q_iloadn (pc' := 1) 1 dX9_count_0 rfl rfl ?_
  by_cases qs_1 : w = 0
  · subst qs_1
    refine q_tableIn (pc' := 48) dX9_count_1 (by decide) (by decide) (by decide) rfl rfl ?_
    refine q_aloadn (pc' := 49) 0 dX9_count_48 rfl rfl ?_
    refine p_getR (pc' := 52) (f := 151) dX9_count_49 rfl fX9_7 kc150 rfl ?_
    refine q_iconst (pc' := 53) dX9_count_52 rfl ?_
    refine p_iald (pc' := 54) dX9_count_53 rfl kc151 (by first | assumption | omega) (by first | assumption | omega) (by decide) (fun qy_53 eqy_53 rqy_53 => ?_)
    refine p_iret dX9_count_54 rfl ?_ ?_
    · unfold s_count; omega
    · rfl
  · by_cases qs_1_1 : w = 1
    · subst qs_1_1
      refine q_tableIn (pc' := 55) dX9_count_1 (by decide) (by decide) (by decide) rfl rfl ?_
      refine q_aloadn (pc' := 56) 0 dX9_count_55 rfl rfl ?_
      refine p_getR (pc' := 59) (f := 151) dX9_count_56 rfl fX9_7 kc150 rfl ?_
      refine q_iconst (pc' := 60) dX9_count_59 rfl ?_
      refine p_iald (pc' := 61) dX9_count_60 rfl kc151 (by first | assumption | omega) (by first | assumption | omega) (by decide) (fun qy_60 eqy_60 rqy_60 => ?_)
      refine p_iret dX9_count_61 rfl ?_ ?_
      · unfold s_count; omega
      · rfl
    · by_cases qs_1_2 : w = 2
      · subst qs_1_2
        refine q_tableIn (pc' := 62) dX9_count_1 (by decide) (by decide) (by decide) rfl rfl ?_
        refine q_aloadn (pc' := 63) 0 dX9_count_62 rfl rfl ?_
        refine p_getR (pc' := 66) (f := 151) dX9_count_63 rfl fX9_7 kc150 rfl ?_
        refine q_iconst (pc' := 67) dX9_count_66 rfl ?_
        refine p_iald (pc' := 68) dX9_count_67 rfl kc151 (by first | assumption | omega) (by first | assumption | omega) (by decide) (fun qy_67 eqy_67 rqy_67 => ?_)
        refine p_iret dX9_count_68 rfl ?_ ?_
        · unfold s_count; omega
        · rfl
      · by_cases qs_1_3 : w = 3
        · subst qs_1_3
          refine q_tableIn (pc' := 69) dX9_count_1 (by decide) (by decide) (by decide) rfl rfl ?_
          refine q_aloadn (pc' := 70) 0 dX9_count_69 rfl rfl ?_
          refine q_callVI (pc' := 73) dX9_count_70 rfl lX9_180 iX9_allYields kc150 rfl (c_X9_allYields (by first | assumption | omega)) rfl rfl (Nat.le_of_ble_eq_true rfl) (Nat.le_of_ble_eq_true rfl) (Nat.le_of_ble_eq_true rfl) ?_
          refine p_iret dX9_count_73 rfl ?_ ?_
          · unfold s_count; omega
          · rfl
        · by_cases qs_1_4 : w = 4
          · subst qs_1_4
            refine q_tableIn (pc' := 74) dX9_count_1 (by decide) (by decide) (by decide) rfl rfl ?_
            refine q_aloadn (pc' := 75) 0 dX9_count_74 rfl rfl ?_
            refine p_getR (pc' := 78) (f := 151) dX9_count_75 rfl fX9_7 kc150 rfl ?_
            refine q_iconst (pc' := 79) dX9_count_78 rfl ?_
            refine p_iald (pc' := 80) dX9_count_79 rfl kc151 (by first | assumption | omega) (by first | assumption | omega) (by decide) (fun qy_79 eqy_79 rqy_79 => ?_)
            refine p_iret dX9_count_80 rfl ?_ ?_
            · unfold s_count; omega
            · rfl
          · by_cases qs_1_5 : w = 5
            · subst qs_1_5
              refine q_tableIn (pc' := 81) dX9_count_1 (by decide) (by decide) (by decide) rfl rfl ?_
              refine q_aloadn (pc' := 82) 0 dX9_count_81 rfl rfl ?_
              refine p_getR (pc' := 85) (f := 151) dX9_count_82 rfl fX9_7 kc150 rfl ?_
              refine q_iconst (pc' := 86) dX9_count_85 rfl ?_
              refine p_iald (pc' := 87) dX9_count_86 rfl kc151 (by first | assumption | omega) (by first | assumption | omega) (by decide) (fun qy_86 eqy_86 rqy_86 => ?_)
              refine p_iret dX9_count_87 rfl ?_ ?_
              · unfold s_count; omega
              · rfl
            · by_cases qs_1_6 : w = 6
              · subst qs_1_6
                refine q_tableIn (pc' := 88) dX9_count_1 (by decide) (by decide) (by decide) rfl rfl ?_
                refine q_aloadn (pc' := 89) 0 dX9_count_88 rfl rfl ?_
                refine p_getJ (pc' := 92) (kz := 6) dX9_count_89 rfl fX9_183 kc150 rfl rfl (fun qy_89 eqy_89 rqy_89 => ?_)
                refine p_iret dX9_count_92 rfl ?_ ?_
                · unfold s_count; omega
                · rfl
              · by_cases qs_1_7 : w = 7
                · subst qs_1_7
                  refine q_tableIn (pc' := 93) dX9_count_1 (by decide) (by decide) (by decide) rfl rfl ?_
                  refine q_aloadn (pc' := 94) 0 dX9_count_93 rfl rfl ?_
                  refine p_getJ (pc' := 97) (kz := 2) dX9_count_94 rfl fX9_34 kc150 rfl rfl (fun qy_94 eqy_94 rqy_94 => ?_)
                  refine p_iret dX9_count_97 rfl ?_ ?_
                  · unfold s_count; omega
                  · rfl
                · refine q_tableOut (pc' := 98) dX9_count_1 (by first | assumption | omega) (by omega) rfl ?_
                  refine q_iloadn (pc' := 99) 1 dX9_count_98 rfl rfl ?_
                  refine q_bipush (pc' := 101) dX9_count_99 rfl rfl ?_
                  refine q_bipush (pc' := 103) dX9_count_101 rfl rfl ?_
                  refine q_callSI (pc' := 106) dX9_count_103 rfl lX9_42 iX9_within (c_X9_within (by first | assumption | omega) (by first | assumption | omega) (by first | assumption | omega)) rfl rfl (Nat.le_of_ble_eq_true rfl) (Nat.le_of_ble_eq_true rfl) (Nat.le_of_ble_eq_true rfl) ?_
                  refine q_if_eq_B (tgt := 123) (pc' := 109) dX9_count_106 rfl rfl (fun qc_106 => ?_) (fun qc_106 => ?_)
                  · refine q_bipush (pc' := 125) dX9_count_123 rfl rfl ?_
                    refine p_iret dX9_count_125 rfl ?_ ?_
                    · unfold s_count; omega
                    · rfl
                  · refine q_aloadn (pc' := 110) 0 dX9_count_109 rfl rfl ?_
                    refine p_getR (pc' := 113) (f := 151) dX9_count_110 rfl fX9_7 kc150 rfl ?_
                    refine q_iconst (pc' := 114) dX9_count_113 rfl ?_
                    refine q_iloadn (pc' := 115) 1 dX9_count_114 rfl rfl ?_
                    refine q_iadd (pc' := 116) dX9_count_115 rfl ?_
                    refine q_bipush (pc' := 118) dX9_count_116 rfl rfl ?_
                    refine q_isub (pc' := 119) dX9_count_118 rfl ?_
                    refine p_iald (pc' := 120) dX9_count_119 rfl kc151 (by first | assumption | omega) (by first | assumption | omega) (by decide) (fun qy_119 eqy_119 rqy_119 => ?_)
                    refine q_goto (pc' := 125) dX9_count_120 rfl ?_
                    refine p_iret dX9_count_125 rfl ?_ ?_
                    · unfold s_count; omega
                    · rfl
set_option maxRecDepth 20000 in
set_option maxHeartbeats 4000000 in
theorem c_X9_areUnits {Γ : q_G} {S : q_S} {u p : Int} (ur : q_rg u) (pr : q_rg p) : q_Sp Γ mX9_areUnits 1 0 0 [q_i u, q_i p] (KC, S) (q_ev (some (q_i (q_B ((1 ≤ u ∧ u ≤ 200) ∧ (0 ≤ p ∧ p ≤ 999))))) (KC, S)) := by
  show q_Go Γ mX9_areUnits 1 0 0 0 [(0, q_i u), (1, q_i p)] [] (KC, S) (q_ev (some (q_i (q_B ((1 ≤ u ∧ u ≤ 200) ∧ (0 ≤ p ∧ p ≤ 999))))) (KC, S))
  refine q_iloadn (pc' := 1) 0 dX9_areUnits_0 rfl rfl ?_
  refine q_iconst (pc' := 2) dX9_areUnits_1 rfl ?_
  refine q_sipush (pc' := 5) dX9_areUnits_2 rfl rfl ?_
  refine q_callSI (pc' := 8) dX9_areUnits_5 rfl lX9_42 iX9_within (c_X9_within (by first | assumption | omega) (by first | assumption | omega) (by first | assumption | omega)) rfl rfl (Nat.le_of_ble_eq_true rfl) (Nat.le_of_ble_eq_true rfl) (Nat.le_of_ble_eq_true rfl) ?_
  refine q_if_eq_B (tgt := 26) (pc' := 11) dX9_areUnits_8 rfl rfl (fun qc_8 => ?_) (fun qc_8 => ?_)
  · refine q_iconst (pc' := 27) dX9_areUnits_26 rfl ?_
    refine p_zret dX9_areUnits_27 rfl ?_ ?_
    · first | exact q_B_1 (by omega) | exact q_B_0 (by omega)
    · rfl
  · refine q_iloadn (pc' := 12) 1 dX9_areUnits_11 rfl rfl ?_
    refine q_iconst (pc' := 13) dX9_areUnits_12 rfl ?_
    refine q_sipush (pc' := 16) dX9_areUnits_13 rfl rfl ?_
    refine q_callSI (pc' := 19) dX9_areUnits_16 rfl lX9_42 iX9_within (c_X9_within (by first | assumption | omega) (by first | assumption | omega) (by first | assumption | omega)) rfl rfl (Nat.le_of_ble_eq_true rfl) (Nat.le_of_ble_eq_true rfl) (Nat.le_of_ble_eq_true rfl) ?_
    refine q_if_eq_B (tgt := 26) (pc' := 22) dX9_areUnits_19 rfl rfl (fun qc_19 => ?_) (fun qc_19 => ?_)
    · refine q_iconst (pc' := 27) dX9_areUnits_26 rfl ?_
      refine p_zret dX9_areUnits_27 rfl ?_ ?_
      · first | exact q_B_1 (by omega) | exact q_B_0 (by omega)
      · rfl
    · refine q_iconst (pc' := 23) dX9_areUnits_22 rfl ?_
      refine q_goto (pc' := 27) dX9_areUnits_23 rfl ?_
      refine p_zret dX9_areUnits_27 rfl ?_ ?_
      · first | exact q_B_1 (by omega) | exact q_B_0 (by omega)
      · rfl
set_option maxRecDepth 20000 in
set_option maxHeartbeats 4000000 in
theorem c_X9_whyNotTilted {Γ : q_G} {S : q_S} {r u : Int} (ok : s_ok (S 151)) (rr : q_rg r) (ur : q_rg u) : q_Sp Γ mX9_whyNotTilted 2 0 0 [q_r Γ 150, q_i r, q_i u] (KC, S) (q_ev (some (q_i (s_wTilt (S 151) r u))) (KC, S)) := by
  show q_Go Γ mX9_whyNotTilted 2 0 0 0 [(0, q_r Γ 150), (1, q_i r), (2, q_i u)] [] (KC, S) (q_ev (some (q_i (s_wTilt (S 151) r u))) (KC, S))
  have rw0 := s_rows_b ok
  refine q_aloadn (pc' := 1) 0 dX9_whyNotTilted_0 rfl rfl ?_
  refine q_iloadn (pc' := 2) 1 dX9_whyNotTilted_1 rfl rfl ?_
  refine q_callVI (pc' := 5) dX9_whyNotTilted_2 rfl lX9_102 iX9_isRow kc150 rfl (c_X9_isRow (by first | assumption | omega) (by first | assumption | omega)) rfl rfl (Nat.le_of_ble_eq_true rfl) (Nat.le_of_ble_eq_true rfl) (Nat.le_of_ble_eq_true rfl) ?_
  refine q_if_ne_B (tgt := 12) (pc' := 8) dX9_whyNotTilted_5 rfl rfl (fun qc_5 => ?_) (fun qc_5 => ?_)
  · refine q_iloadn (pc' := 13) 2 dX9_whyNotTilted_12 rfl rfl ?_
    refine q_iconst (pc' := 14) dX9_whyNotTilted_13 rfl ?_
    refine q_iconst (pc' := 15) dX9_whyNotTilted_14 rfl ?_
    refine q_callSI (pc' := 18) dX9_whyNotTilted_15 rfl lX9_42 iX9_within (c_X9_within (by first | assumption | omega) (by first | assumption | omega) (by first | assumption | omega)) rfl rfl (Nat.le_of_ble_eq_true rfl) (Nat.le_of_ble_eq_true rfl) (Nat.le_of_ble_eq_true rfl) ?_
    refine q_if_eq_B (tgt := 25) (pc' := 21) dX9_whyNotTilted_18 rfl rfl (fun qc_18 => ?_) (fun qc_18 => ?_)
    · refine q_bipush (pc' := 27) dX9_whyNotTilted_25 rfl rfl ?_
      refine p_iret dX9_whyNotTilted_27 rfl ?_ ?_
      · unfold s_wTilt; omega
      · rfl
    · refine q_iconst (pc' := 22) dX9_whyNotTilted_21 rfl ?_
      refine q_goto (pc' := 27) dX9_whyNotTilted_22 rfl ?_
      refine p_iret dX9_whyNotTilted_27 rfl ?_ ?_
      · unfold s_wTilt; omega
      · rfl
  · refine q_iconst (pc' := 9) dX9_whyNotTilted_8 rfl ?_
    refine q_goto (pc' := 27) dX9_whyNotTilted_9 rfl ?_
    refine p_iret dX9_whyNotTilted_27 rfl ?_ ?_
    · unfold s_wTilt; omega
    · rfl
set_option maxRecDepth 20000 in
set_option maxHeartbeats 4000000 in
theorem c_X9_whyNotGranted {Γ : q_G} {S : q_S} {a b h u : Int} (ok : s_ok (S 151)) (ar : q_rg a) (br : q_rg b) (hr : q_rg h) (ur : q_rg u) : q_Sp Γ mX9_whyNotGranted 2 0 0 [q_r Γ 150, q_i a, q_i b, q_i h, q_i u] (KC, S) (q_ev (some (q_i (s_wGrant (S 151) a b h u))) (KC, S)) := by
  show q_Go Γ mX9_whyNotGranted 2 0 0 0 [(0, q_r Γ 150), (1, q_i a), (2, q_i b), (3, q_i h), (4, q_i u)] [] (KC, S) (q_ev (some (q_i (s_wGrant (S 151) a b h u))) (KC, S))
  have rw0 := s_rows_b ok
  refine q_aloadn (pc' := 1) 0 dX9_whyNotGranted_0 rfl rfl ?_
  refine q_iloadn (pc' := 2) 1 dX9_whyNotGranted_1 rfl rfl ?_
  refine q_callVI (pc' := 5) dX9_whyNotGranted_2 rfl lX9_102 iX9_isRow kc150 rfl (c_X9_isRow (by first | assumption | omega) (by first | assumption | omega)) rfl rfl (Nat.le_of_ble_eq_true rfl) (Nat.le_of_ble_eq_true rfl) (Nat.le_of_ble_eq_true rfl) ?_
  refine q_if_eq_B (tgt := 23) (pc' := 8) dX9_whyNotGranted_5 rfl rfl (fun qc_5 => ?_) (fun qc_5 => ?_)
  · refine q_iconst (pc' := 24) dX9_whyNotGranted_23 rfl ?_
    refine p_iret dX9_whyNotGranted_24 rfl ?_ ?_
    · unfold s_wGrant; omega
    · rfl
  · refine q_aloadn (pc' := 9) 0 dX9_whyNotGranted_8 rfl rfl ?_
    refine q_iloadn (pc' := 10) 2 dX9_whyNotGranted_9 rfl rfl ?_
    refine q_callVI (pc' := 13) dX9_whyNotGranted_10 rfl lX9_102 iX9_isRow kc150 rfl (c_X9_isRow (by first | assumption | omega) (by first | assumption | omega)) rfl rfl (Nat.le_of_ble_eq_true rfl) (Nat.le_of_ble_eq_true rfl) (Nat.le_of_ble_eq_true rfl) ?_
    refine q_if_eq_B (tgt := 23) (pc' := 16) dX9_whyNotGranted_13 rfl rfl (fun qc_13 => ?_) (fun qc_13 => ?_)
    · refine q_iconst (pc' := 24) dX9_whyNotGranted_23 rfl ?_
      refine p_iret dX9_whyNotGranted_24 rfl ?_ ?_
      · unfold s_wGrant; omega
      · rfl
    · refine q_iloadn (pc' := 17) 3 dX9_whyNotGranted_16 rfl rfl ?_
      refine q_callSI (pc' := 20) dX9_whyNotGranted_17 rfl lX9_111 iX9_isHour (c_X9_isHour (by first | assumption | omega)) rfl rfl (Nat.le_of_ble_eq_true rfl) (Nat.le_of_ble_eq_true rfl) (Nat.le_of_ble_eq_true rfl) ?_
      refine q_if_ne_B (tgt := 25) (pc' := 23) dX9_whyNotGranted_20 rfl rfl (fun qc_20 => ?_) (fun qc_20 => ?_)
      · refine q_iloadn (pc' := 26) 1 dX9_whyNotGranted_25 rfl rfl ?_
        refine q_iloadn (pc' := 27) 2 dX9_whyNotGranted_26 rfl rfl ?_
        refine q_icmp_eq (tgt := 42) (pc' := 30) dX9_whyNotGranted_27 rfl rfl (by first | assumption | omega) (by first | assumption | omega) (fun qc_27 => ?_) (fun qc_27 => ?_)
        · refine q_bipush (pc' := 44) dX9_whyNotGranted_42 rfl rfl ?_
          refine q_goto (pc' := 48) dX9_whyNotGranted_44 rfl ?_
          refine p_iret dX9_whyNotGranted_48 rfl ?_ ?_
          · unfold s_wGrant; omega
          · rfl
        · refine q_iload (pc' := 32) 4 dX9_whyNotGranted_30 rfl rfl ?_
          refine q_iconst (pc' := 33) dX9_whyNotGranted_32 rfl ?_
          refine q_sipush (pc' := 36) dX9_whyNotGranted_33 rfl rfl ?_
          refine q_callSI (pc' := 39) dX9_whyNotGranted_36 rfl lX9_42 iX9_within (c_X9_within (by first | assumption | omega) (by first | assumption | omega) (by first | assumption | omega)) rfl rfl (Nat.le_of_ble_eq_true rfl) (Nat.le_of_ble_eq_true rfl) (Nat.le_of_ble_eq_true rfl) ?_
          refine q_if_ne_B (tgt := 47) (pc' := 42) dX9_whyNotGranted_39 rfl rfl (fun qc_39 => ?_) (fun qc_39 => ?_)
          · refine q_iconst (pc' := 48) dX9_whyNotGranted_47 rfl ?_
            refine p_iret dX9_whyNotGranted_48 rfl ?_ ?_
            · unfold s_wGrant; omega
            · rfl
          · refine q_bipush (pc' := 44) dX9_whyNotGranted_42 rfl rfl ?_
            refine q_goto (pc' := 48) dX9_whyNotGranted_44 rfl ?_
            refine p_iret dX9_whyNotGranted_48 rfl ?_ ?_
            · unfold s_wGrant; omega
            · rfl
      · refine q_iconst (pc' := 24) dX9_whyNotGranted_23 rfl ?_
        refine p_iret dX9_whyNotGranted_24 rfl ?_ ?_
        · unfold s_wGrant; omega
        · rfl
set_option maxRecDepth 20000 in
set_option maxHeartbeats 4000000 in
theorem c_X9_whyNotAsked {Γ : q_G} {S : q_S} {a h u p : Int} (ok : s_ok (S 151)) (ar : q_rg a) (hr : q_rg h) (ur : q_rg u) (pr : q_rg p) : q_Sp Γ mX9_whyNotAsked 2 0 0 [q_r Γ 150, q_i a, q_i h, q_i u, q_i p] (KC, S) (q_ev (some (q_i (s_wAsk (S 151) a h u p))) (KC, S)) := by
  show q_Go Γ mX9_whyNotAsked 2 0 0 0 [(0, q_r Γ 150), (1, q_i a), (2, q_i h), (3, q_i u), (4, q_i p)] [] (KC, S) (q_ev (some (q_i (s_wAsk (S 151) a h u p))) (KC, S))
  have rw0 := s_rows_b ok
  refine q_aloadn (pc' := 1) 0 dX9_whyNotAsked_0 rfl rfl ?_
  refine q_iloadn (pc' := 2) 1 dX9_whyNotAsked_1 rfl rfl ?_
  refine q_callVI (pc' := 5) dX9_whyNotAsked_2 rfl lX9_102 iX9_isRow kc150 rfl (c_X9_isRow (by first | assumption | omega) (by first | assumption | omega)) rfl rfl (Nat.le_of_ble_eq_true rfl) (Nat.le_of_ble_eq_true rfl) (Nat.le_of_ble_eq_true rfl) ?_
  refine q_if_eq_B (tgt := 15) (pc' := 8) dX9_whyNotAsked_5 rfl rfl (fun qc_5 => ?_) (fun qc_5 => ?_)
  · refine q_iconst (pc' := 16) dX9_whyNotAsked_15 rfl ?_
    refine p_iret dX9_whyNotAsked_16 rfl ?_ ?_
    · unfold s_wAsk; omega
    · rfl
  · refine q_iloadn (pc' := 9) 2 dX9_whyNotAsked_8 rfl rfl ?_
    refine q_callSI (pc' := 12) dX9_whyNotAsked_9 rfl lX9_111 iX9_isHour (c_X9_isHour (by first | assumption | omega)) rfl rfl (Nat.le_of_ble_eq_true rfl) (Nat.le_of_ble_eq_true rfl) (Nat.le_of_ble_eq_true rfl) ?_
    refine q_if_ne_B (tgt := 17) (pc' := 15) dX9_whyNotAsked_12 rfl rfl (fun qc_12 => ?_) (fun qc_12 => ?_)
    · refine q_iloadn (pc' := 18) 3 dX9_whyNotAsked_17 rfl rfl ?_
      refine q_iload (pc' := 20) 4 dX9_whyNotAsked_18 rfl rfl ?_
      refine q_callSI (pc' := 23) dX9_whyNotAsked_20 rfl lX9_121 iX9_areUnits (c_X9_areUnits (by first | assumption | omega) (by first | assumption | omega)) rfl rfl (Nat.le_of_ble_eq_true rfl) (Nat.le_of_ble_eq_true rfl) (Nat.le_of_ble_eq_true rfl) ?_
      refine q_if_ne_B (tgt := 31) (pc' := 26) dX9_whyNotAsked_23 rfl rfl (fun qc_23 => ?_) (fun qc_23 => ?_)
      · refine q_aloadn (pc' := 32) 0 dX9_whyNotAsked_31 rfl rfl ?_
        refine p_getR (pc' := 35) (f := 151) dX9_whyNotAsked_32 rfl fX9_7 kc150 rfl ?_
        refine q_iconst (pc' := 36) dX9_whyNotAsked_35 rfl ?_
        refine p_iald (pc' := 37) dX9_whyNotAsked_36 rfl kc151 (by first | assumption | omega) (by first | assumption | omega) (by decide) (fun qy_36 eqy_36 rqy_36 => ?_)
        refine q_bipush (pc' := 39) dX9_whyNotAsked_37 rfl rfl ?_
        refine q_icmp_ne (tgt := 47) (pc' := 42) dX9_whyNotAsked_39 rfl rfl (by first | assumption | omega) (by decide) (fun qc_39 => ?_) (fun qc_39 => ?_)
        · refine q_iconst (pc' := 48) dX9_whyNotAsked_47 rfl ?_
          refine p_iret dX9_whyNotAsked_48 rfl ?_ ?_
          · unfold s_wAsk; omega
          · rfl
        · refine q_bipush (pc' := 44) dX9_whyNotAsked_42 rfl rfl ?_
          refine q_goto (pc' := 48) dX9_whyNotAsked_44 rfl ?_
          refine p_iret dX9_whyNotAsked_48 rfl ?_ ?_
          · unfold s_wAsk; omega
          · rfl
      · refine q_bipush (pc' := 28) dX9_whyNotAsked_26 rfl rfl ?_
        refine q_goto (pc' := 48) dX9_whyNotAsked_28 rfl ?_
        refine p_iret dX9_whyNotAsked_48 rfl ?_ ?_
        · unfold s_wAsk; omega
        · rfl
    · refine q_iconst (pc' := 16) dX9_whyNotAsked_15 rfl ?_
      refine p_iret dX9_whyNotAsked_16 rfl ?_ ?_
      · unfold s_wAsk; omega
      · rfl
set_option maxRecDepth 20000 in
set_option maxHeartbeats 4000000 in
theorem c_X9_whyNotBid {Γ : q_G} {S : q_S} {b a h u p : Int} (ok : s_ok (S 151)) (br : q_rg b) (ar : q_rg a) (hr : q_rg h) (ur : q_rg u) (pr : q_rg p) : q_Sp Γ mX9_whyNotBid 2 0 0 [q_r Γ 150, q_i b, q_i a, q_i h, q_i u, q_i p] (KC, S) (q_ev (some (q_i (s_wBid (S 151) b a h u p))) (KC, S)) := by
  show q_Go Γ mX9_whyNotBid 2 0 0 0 [(0, q_r Γ 150), (1, q_i b), (2, q_i a), (3, q_i h), (4, q_i u), (5, q_i p)] [] (KC, S) (q_ev (some (q_i (s_wBid (S 151) b a h u p))) (KC, S))
  have rw0 := s_rows_b ok
  refine q_aloadn (pc' := 1) 0 dX9_whyNotBid_0 rfl rfl ?_
  refine q_iloadn (pc' := 2) 1 dX9_whyNotBid_1 rfl rfl ?_
  refine q_callVI (pc' := 5) dX9_whyNotBid_2 rfl lX9_102 iX9_isRow kc150 rfl (c_X9_isRow (by first | assumption | omega) (by first | assumption | omega)) rfl rfl (Nat.le_of_ble_eq_true rfl) (Nat.le_of_ble_eq_true rfl) (Nat.le_of_ble_eq_true rfl) ?_
  refine q_if_eq_B (tgt := 23) (pc' := 8) dX9_whyNotBid_5 rfl rfl (fun qc_5 => ?_) (fun qc_5 => ?_)
  · refine q_iconst (pc' := 24) dX9_whyNotBid_23 rfl ?_
    refine p_iret dX9_whyNotBid_24 rfl ?_ ?_
    · unfold s_wBid; omega
    · rfl
  · refine q_aloadn (pc' := 9) 0 dX9_whyNotBid_8 rfl rfl ?_
    refine q_iloadn (pc' := 10) 2 dX9_whyNotBid_9 rfl rfl ?_
    refine q_callVI (pc' := 13) dX9_whyNotBid_10 rfl lX9_102 iX9_isRow kc150 rfl (c_X9_isRow (by first | assumption | omega) (by first | assumption | omega)) rfl rfl (Nat.le_of_ble_eq_true rfl) (Nat.le_of_ble_eq_true rfl) (Nat.le_of_ble_eq_true rfl) ?_
    refine q_if_eq_B (tgt := 23) (pc' := 16) dX9_whyNotBid_13 rfl rfl (fun qc_13 => ?_) (fun qc_13 => ?_)
    · refine q_iconst (pc' := 24) dX9_whyNotBid_23 rfl ?_
      refine p_iret dX9_whyNotBid_24 rfl ?_ ?_
      · unfold s_wBid; omega
      · rfl
    · refine q_iloadn (pc' := 17) 3 dX9_whyNotBid_16 rfl rfl ?_
      refine q_callSI (pc' := 20) dX9_whyNotBid_17 rfl lX9_111 iX9_isHour (c_X9_isHour (by first | assumption | omega)) rfl rfl (Nat.le_of_ble_eq_true rfl) (Nat.le_of_ble_eq_true rfl) (Nat.le_of_ble_eq_true rfl) ?_
      refine q_if_ne_B (tgt := 25) (pc' := 23) dX9_whyNotBid_20 rfl rfl (fun qc_20 => ?_) (fun qc_20 => ?_)
      · refine q_iloadn (pc' := 26) 1 dX9_whyNotBid_25 rfl rfl ?_
        refine q_iloadn (pc' := 27) 2 dX9_whyNotBid_26 rfl rfl ?_
        refine q_icmp_eq (tgt := 40) (pc' := 30) dX9_whyNotBid_27 rfl rfl (by first | assumption | omega) (by first | assumption | omega) (fun qc_27 => ?_) (fun qc_27 => ?_)
        · refine q_bipush (pc' := 42) dX9_whyNotBid_40 rfl rfl ?_
          refine q_goto (pc' := 62) dX9_whyNotBid_42 rfl ?_
          refine p_iret dX9_whyNotBid_62 rfl ?_ ?_
          · unfold s_wBid; omega
          · rfl
        · refine q_iload (pc' := 32) 4 dX9_whyNotBid_30 rfl rfl ?_
          refine q_iload (pc' := 34) 5 dX9_whyNotBid_32 rfl rfl ?_
          refine q_callSI (pc' := 37) dX9_whyNotBid_34 rfl lX9_121 iX9_areUnits (c_X9_areUnits (by first | assumption | omega) (by first | assumption | omega)) rfl rfl (Nat.le_of_ble_eq_true rfl) (Nat.le_of_ble_eq_true rfl) (Nat.le_of_ble_eq_true rfl) ?_
          refine q_if_ne_B (tgt := 45) (pc' := 40) dX9_whyNotBid_37 rfl rfl (fun qc_37 => ?_) (fun qc_37 => ?_)
          · refine q_aloadn (pc' := 46) 0 dX9_whyNotBid_45 rfl rfl ?_
            refine p_getR (pc' := 49) (f := 151) dX9_whyNotBid_46 rfl fX9_7 kc150 rfl ?_
            refine q_iconst (pc' := 50) dX9_whyNotBid_49 rfl ?_
            refine p_iald (pc' := 51) dX9_whyNotBid_50 rfl kc151 (by first | assumption | omega) (by first | assumption | omega) (by decide) (fun qy_50 eqy_50 rqy_50 => ?_)
            refine q_bipush (pc' := 53) dX9_whyNotBid_51 rfl rfl ?_
            refine q_icmp_ne (tgt := 61) (pc' := 56) dX9_whyNotBid_53 rfl rfl (by first | assumption | omega) (by decide) (fun qc_53 => ?_) (fun qc_53 => ?_)
            · refine q_iconst (pc' := 62) dX9_whyNotBid_61 rfl ?_
              refine p_iret dX9_whyNotBid_62 rfl ?_ ?_
              · unfold s_wBid; omega
              · rfl
            · refine q_bipush (pc' := 58) dX9_whyNotBid_56 rfl rfl ?_
              refine q_goto (pc' := 62) dX9_whyNotBid_58 rfl ?_
              refine p_iret dX9_whyNotBid_62 rfl ?_ ?_
              · unfold s_wBid; omega
              · rfl
          · refine q_bipush (pc' := 42) dX9_whyNotBid_40 rfl rfl ?_
            refine q_goto (pc' := 62) dX9_whyNotBid_42 rfl ?_
            refine p_iret dX9_whyNotBid_62 rfl ?_ ?_
            · unfold s_wBid; omega
            · rfl
      · refine q_iconst (pc' := 24) dX9_whyNotBid_23 rfl ?_
        refine p_iret dX9_whyNotBid_24 rfl ?_ ?_
        · unfold s_wBid; omega
        · rfl
