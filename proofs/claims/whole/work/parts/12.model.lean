set_option maxRecDepth 20000 in
set_option maxHeartbeats 4000000 in
theorem c_X9_within {Γ : q_G} {K : List q_K} {S : q_S} {v l h : Int} (hv : q_rg v) (hl : q_rg l) (hh : q_rg h) : q_Sp Γ mX9_within 0 0 0 [q_i v, q_i l, q_i h] (K, S) (q_ev (some (q_i (q_B (l ≤ v ∧ v ≤ h)))) (K, S)) := by
  show q_Go Γ mX9_within 0 0 0 0 [(0, q_i v), (1, q_i l), (2, q_i h)] [] (K, S) (q_ev (some (q_i (q_B (l ≤ v ∧ v ≤ h)))) (K, S))
  refine q_iloadn (pc' := 1) 0 dX9_within_0 rfl rfl ?_
  refine q_iloadn (pc' := 2) 1 dX9_within_1 rfl rfl ?_
  refine q_icmp_lt (tgt := 14) (pc' := 5) dX9_within_2 rfl rfl (by omega) (by omega) (fun qc_2 => ?_) (fun qc_2 => ?_)
  · refine q_iconst (pc' := 15) dX9_within_14 rfl ?_
    refine p_zret dX9_within_15 rfl ?_ ?_
    · first | (rw [q_B_t ⟨by omega, by omega⟩]; done) | (rw [q_B_f (by omega)]; done)
    · rfl
  · refine q_iloadn (pc' := 6) 0 dX9_within_5 rfl rfl ?_
    refine q_iloadn (pc' := 7) 2 dX9_within_6 rfl rfl ?_
    refine q_icmp_gt (tgt := 14) (pc' := 10) dX9_within_7 rfl rfl (by omega) (by omega) (fun qc_7 => ?_) (fun qc_7 => ?_)
    · refine q_iconst (pc' := 15) dX9_within_14 rfl ?_
      refine p_zret dX9_within_15 rfl ?_ ?_
      · first | (rw [q_B_t ⟨by omega, by omega⟩]; done) | (rw [q_B_f (by omega)]; done)
      · rfl
    · refine q_iconst (pc' := 11) dX9_within_10 rfl ?_
      refine q_goto (pc' := 15) dX9_within_11 rfl ?_
      refine p_zret dX9_within_15 rfl ?_ ?_
      · first | (rw [q_B_t ⟨by omega, by omega⟩]; done) | (rw [q_B_f (by omega)]; done)
      · rfl
set_option maxRecDepth 20000 in
set_option maxHeartbeats 4000000 in
theorem c_X9_part {Γ : q_G} {S : q_S} {r p : Int} (r0 : 0 ≤ 15 + 4 * r + p) (r1 : 15 + 4 * r + p < 489) : q_Sp Γ mX9_part 0 0 0 [q_r Γ 150, q_i r, q_i p] (KC, S) (q_ev (some (q_i (s_pt (S 151) r p))) (KC, S)) := by
  show q_Go Γ mX9_part 0 0 0 0 [(0, q_r Γ 150), (1, q_i r), (2, q_i p)] [] (KC, S) (q_ev (some (q_i (s_pt (S 151) r p))) (KC, S))
  refine q_aloadn (pc' := 1) 0 dX9_part_0 rfl rfl ?_
  refine p_getR (pc' := 4) (f := 151) dX9_part_1 rfl fX9_7 kc150 rfl ?_
  refine q_bipush (pc' := 6) dX9_part_4 rfl rfl ?_
  refine q_iconst (pc' := 7) dX9_part_6 rfl ?_
  refine q_iloadn (pc' := 8) 1 dX9_part_7 rfl rfl ?_
  refine q_imul (pc' := 9) dX9_part_8 rfl ?_
  refine q_iadd (pc' := 10) dX9_part_9 rfl ?_
  refine q_iloadn (pc' := 11) 2 dX9_part_10 rfl rfl ?_
  refine q_iadd (pc' := 12) dX9_part_11 rfl ?_
  refine p_iald (pc' := 13) dX9_part_12 rfl kc151 (by omega) (by omega) (by decide) (fun qy_12 eqy_12 rqy_12 => ?_)
  refine p_iret dX9_part_13 rfl ?_ ?_
  · assumption
  · rfl
set_option maxRecDepth 20000 in
set_option maxHeartbeats 4000000 in
theorem c_X9_rightOf {Γ : q_G} {S : q_S} {a b h : Int} (r0 : 0 ≤ 39 + 10 * (6 * a + b) + h) (r1 : 39 + 10 * (6 * a + b) + h < 489) : q_Sp Γ mX9_rightOf 0 0 0 [q_r Γ 150, q_i a, q_i b, q_i h] (KC, S) (q_ev (some (q_i (s_rt (S 151) a b h))) (KC, S)) := by
  show q_Go Γ mX9_rightOf 0 0 0 0 [(0, q_r Γ 150), (1, q_i a), (2, q_i b), (3, q_i h)] [] (KC, S) (q_ev (some (q_i (s_rt (S 151) a b h))) (KC, S))
  refine q_aloadn (pc' := 1) 0 dX9_rightOf_0 rfl rfl ?_
  refine p_getR (pc' := 4) (f := 151) dX9_rightOf_1 rfl fX9_7 kc150 rfl ?_
  refine q_bipush (pc' := 6) dX9_rightOf_4 rfl rfl ?_
  refine q_bipush (pc' := 8) dX9_rightOf_6 rfl rfl ?_
  refine q_bipush (pc' := 10) dX9_rightOf_8 rfl rfl ?_
  refine q_iloadn (pc' := 11) 1 dX9_rightOf_10 rfl rfl ?_
  refine q_imul (pc' := 12) dX9_rightOf_11 rfl ?_
  refine q_iloadn (pc' := 13) 2 dX9_rightOf_12 rfl rfl ?_
  refine q_iadd (pc' := 14) dX9_rightOf_13 rfl ?_
  refine q_imul (pc' := 15) dX9_rightOf_14 rfl ?_
  refine q_iadd (pc' := 16) dX9_rightOf_15 rfl ?_
  refine q_iloadn (pc' := 17) 3 dX9_rightOf_16 rfl rfl ?_
  refine q_iadd (pc' := 18) dX9_rightOf_17 rfl ?_
  refine p_iald (pc' := 19) dX9_rightOf_18 rfl kc151 (by omega) (by omega) (by decide) (fun qy_18 eqy_18 rqy_18 => ?_)
  refine p_iret dX9_rightOf_19 rfl ?_ ?_
  · assumption
  · rfl
set_option maxRecDepth 20000 in
set_option maxHeartbeats 4000000 in
theorem c_X9_askPart {Γ : q_G} {S : q_S} {i p : Int} (r0 : 0 ≤ 399 + 4 * i + p) (r1 : 399 + 4 * i + p < 489) : q_Sp Γ mX9_askPart 0 0 0 [q_r Γ 150, q_i i, q_i p] (KC, S) (q_ev (some (q_i (s_as (S 151) i p))) (KC, S)) := by
  show q_Go Γ mX9_askPart 0 0 0 0 [(0, q_r Γ 150), (1, q_i i), (2, q_i p)] [] (KC, S) (q_ev (some (q_i (s_as (S 151) i p))) (KC, S))
  refine q_aloadn (pc' := 1) 0 dX9_askPart_0 rfl rfl ?_
  refine p_getR (pc' := 4) (f := 151) dX9_askPart_1 rfl fX9_7 kc150 rfl ?_
  refine q_sipush (pc' := 7) dX9_askPart_4 rfl rfl ?_
  refine q_iconst (pc' := 8) dX9_askPart_7 rfl ?_
  refine q_iloadn (pc' := 9) 1 dX9_askPart_8 rfl rfl ?_
  refine q_imul (pc' := 10) dX9_askPart_9 rfl ?_
  refine q_iadd (pc' := 11) dX9_askPart_10 rfl ?_
  refine q_iloadn (pc' := 12) 2 dX9_askPart_11 rfl rfl ?_
  refine q_iadd (pc' := 13) dX9_askPart_12 rfl ?_
  refine p_iald (pc' := 14) dX9_askPart_13 rfl kc151 (by omega) (by omega) (by decide) (fun qy_13 eqy_13 rqy_13 => ?_)
  refine p_iret dX9_askPart_14 rfl ?_ ?_
  · assumption
  · rfl
set_option maxRecDepth 20000 in
set_option maxHeartbeats 4000000 in
theorem c_X9_bidPart {Γ : q_G} {S : q_S} {i p : Int} (r0 : 0 ≤ 439 + 5 * i + p) (r1 : 439 + 5 * i + p < 489) : q_Sp Γ mX9_bidPart 0 0 0 [q_r Γ 150, q_i i, q_i p] (KC, S) (q_ev (some (q_i (s_bd (S 151) i p))) (KC, S)) := by
  show q_Go Γ mX9_bidPart 0 0 0 0 [(0, q_r Γ 150), (1, q_i i), (2, q_i p)] [] (KC, S) (q_ev (some (q_i (s_bd (S 151) i p))) (KC, S))
  refine q_aloadn (pc' := 1) 0 dX9_bidPart_0 rfl rfl ?_
  refine p_getR (pc' := 4) (f := 151) dX9_bidPart_1 rfl fX9_7 kc150 rfl ?_
  refine q_sipush (pc' := 7) dX9_bidPart_4 rfl rfl ?_
  refine q_iconst (pc' := 8) dX9_bidPart_7 rfl ?_
  refine q_iloadn (pc' := 9) 1 dX9_bidPart_8 rfl rfl ?_
  refine q_imul (pc' := 10) dX9_bidPart_9 rfl ?_
  refine q_iadd (pc' := 11) dX9_bidPart_10 rfl ?_
  refine q_iloadn (pc' := 12) 2 dX9_bidPart_11 rfl rfl ?_
  refine q_iadd (pc' := 13) dX9_bidPart_12 rfl ?_
  refine p_iald (pc' := 14) dX9_bidPart_13 rfl kc151 (by omega) (by omega) (by decide) (fun qy_13 eqy_13 rqy_13 => ?_)
  refine p_iret dX9_bidPart_14 rfl ?_ ?_
  · assumption
  · rfl
set_option maxRecDepth 20000 in
set_option maxHeartbeats 4000000 in
theorem c_X9_isRow {Γ : q_G} {S : q_S} {r : Int} (ok : s_ok (S 151)) (hr : q_rg r) : q_Sp Γ mX9_isRow 1 0 0 [q_r Γ 150, q_i r] (KC, S) (q_ev (some (q_i (q_B (0 ≤ r ∧ r < S 151 0)))) (KC, S)) := by
  show q_Go Γ mX9_isRow 1 0 0 0 [(0, q_r Γ 150), (1, q_i r)] [] (KC, S) (q_ev (some (q_i (q_B (0 ≤ r ∧ r < S 151 0)))) (KC, S))
  have rw0 := s_rows_b ok
  refine q_iloadn (pc' := 1) 1 dX9_isRow_0 rfl rfl ?_
  refine q_iconst (pc' := 2) dX9_isRow_1 rfl ?_
  refine q_aloadn (pc' := 3) 0 dX9_isRow_2 rfl rfl ?_
  refine p_getR (pc' := 6) (f := 151) dX9_isRow_3 rfl fX9_7 kc150 rfl ?_
  refine q_iconst (pc' := 7) dX9_isRow_6 rfl ?_
  refine p_iald (pc' := 8) dX9_isRow_7 rfl kc151 (by omega) (by omega) (by decide) (fun qy_7 eqy_7 rqy_7 => ?_)
  refine q_iconst (pc' := 9) dX9_isRow_8 rfl ?_
  refine q_isub (pc' := 10) dX9_isRow_9 rfl ?_
  refine q_callSI (pc' := 13) dX9_isRow_10 rfl lX9_42 iX9_within (c_X9_within (by omega) (by omega) (by omega)) rfl rfl (Nat.le_of_ble_eq_true rfl) (Nat.le_of_ble_eq_true rfl) (Nat.le_of_ble_eq_true rfl) ?_
  refine p_zret dX9_isRow_13 rfl ?_ ?_
  · refine q_B_congr ?_; omega
  · rfl
set_option maxRecDepth 20000 in
set_option maxHeartbeats 4000000 in
theorem c_X9_isHour {Γ : q_G} {S : q_S} {h : Int} (hr : q_rg h) : q_Sp Γ mX9_isHour 1 0 0 [q_i h] (KC, S) (q_ev (some (q_i (q_B (0 ≤ h ∧ h < 10)))) (KC, S)) := by
  show q_Go Γ mX9_isHour 1 0 0 0 [(0, q_i h)] [] (KC, S) (q_ev (some (q_i (q_B (0 ≤ h ∧ h < 10)))) (KC, S))
  refine q_iloadn (pc' := 1) 0 dX9_isHour_0 rfl rfl ?_
  refine q_iconst (pc' := 2) dX9_isHour_1 rfl ?_
  refine q_bipush (pc' := 4) dX9_isHour_2 rfl rfl ?_
  refine q_callSI (pc' := 7) dX9_isHour_4 rfl lX9_42 iX9_within (c_X9_within (by omega) (by omega) (by omega)) rfl rfl (Nat.le_of_ble_eq_true rfl) (Nat.le_of_ble_eq_true rfl) (Nat.le_of_ble_eq_true rfl) ?_
  refine p_zret dX9_isHour_7 rfl ?_ ?_
  · refine q_B_congr ?_; omega
  · rfl
set_option maxRecDepth 20000 in
set_option maxHeartbeats 4000000 in
theorem c_X9_slopeOf {Γ : q_G} {S : q_S} {h : Int} (h0 : 0 ≤ h) (h1 : h < 10) : q_Sp Γ mX9_slopeOf 0 0 0 [q_i h] (KC, S) (q_ev (some (q_i (s_slope h))) (KC, S)) := by
  show q_Go Γ mX9_slopeOf 0 0 0 0 [(0, q_i h)] [] (KC, S) (q_ev (some (q_i (s_slope h))) (KC, S))
  refine q_iloadn (pc' := 1) 0 dX9_slopeOf_0 rfl rfl ?_
  refine q_iconst (pc' := 2) dX9_slopeOf_1 rfl ?_
  refine q_icmp_ge (tgt := 9) (pc' := 5) dX9_slopeOf_2 rfl rfl (by omega) (by decide) (fun qc_2 => ?_) (fun qc_2 => ?_)
  · refine q_bipush (pc' := 11) dX9_slopeOf_9 rfl rfl ?_
    refine q_iloadn (pc' := 12) 0 dX9_slopeOf_11 rfl rfl ?_
    refine q_isub (pc' := 13) dX9_slopeOf_12 rfl ?_
    refine q_istoren (pc' := 14) (L' := [(1, q_i (9 - h)), (0, q_i h)]) dX9_slopeOf_13 rfl rfl (by decide) rfl ?_
    refine q_iloadn (pc' := 15) 0 dX9_slopeOf_14 rfl rfl ?_
    refine q_if_ne (tgt := 23) (pc' := 18) dX9_slopeOf_15 rfl rfl (by omega) (fun qc_15 => ?_) (fun qc_15 => ?_)
    · refine q_iconst (pc' := 24) dX9_slopeOf_23 rfl ?_
      refine q_iloadn (pc' := 25) 0 dX9_slopeOf_24 rfl rfl ?_
      refine q_isub (pc' := 26) dX9_slopeOf_25 rfl ?_
      refine p_iret dX9_slopeOf_26 rfl ?_ ?_
      · unfold s_slope; omega
      · rfl
    · refine q_bipush (pc' := 20) dX9_slopeOf_18 rfl rfl ?_
      refine q_goto (pc' := 26) dX9_slopeOf_20 rfl ?_
      refine p_iret dX9_slopeOf_26 rfl ?_ ?_
      · unfold s_slope; omega
      · rfl
  · refine q_iloadn (pc' := 6) 0 dX9_slopeOf_5 rfl rfl ?_
    refine q_goto (pc' := 13) dX9_slopeOf_6 rfl ?_
    refine q_istoren (pc' := 14) (L' := [(1, q_i h), (0, q_i h)]) dX9_slopeOf_13 rfl rfl (by decide) rfl ?_
    refine q_iloadn (pc' := 15) 0 dX9_slopeOf_14 rfl rfl ?_
    refine q_if_ne (tgt := 23) (pc' := 18) dX9_slopeOf_15 rfl rfl (by omega) (fun qc_15_1 => ?_) (fun qc_15_1 => ?_)
    · refine q_iconst (pc' := 24) dX9_slopeOf_23 rfl ?_
      refine q_iloadn (pc' := 25) 0 dX9_slopeOf_24 rfl rfl ?_
      refine q_isub (pc' := 26) dX9_slopeOf_25 rfl ?_
      refine p_iret dX9_slopeOf_26 rfl ?_ ?_
      · unfold s_slope; omega
      · rfl
    · refine q_bipush (pc' := 20) dX9_slopeOf_18 rfl rfl ?_
      refine q_goto (pc' := 26) dX9_slopeOf_20 rfl ?_
      refine p_iret dX9_slopeOf_26 rfl ?_ ?_
      · unfold s_slope; omega
      · rfl
set_option maxRecDepth 20000 in
set_option maxHeartbeats 4000000 in
theorem c_X9_sunOf {Γ : q_G} {S : q_S} {h : Int} (h0 : 0 ≤ h) (h1 : h < 10) : q_Sp Γ mX9_sunOf 0 0 0 [q_i h] (KC, S) (q_ev (some (q_i (s_sun h))) (KC, S)) := by
  show q_Go Γ mX9_sunOf 0 0 0 0 [(0, q_i h)] [] (KC, S) (q_ev (some (q_i (s_sun h))) (KC, S))
  refine q_iloadn (pc' := 1) 0 dX9_sunOf_0 rfl rfl ?_
  refine q_iconst (pc' := 2) dX9_sunOf_1 rfl ?_
  refine q_icmp_ge (tgt := 11) (pc' := 5) dX9_sunOf_2 rfl rfl (by omega) (by decide) (fun qc_2 => ?_) (fun qc_2 => ?_)
  · refine q_bipush (pc' := 13) dX9_sunOf_11 rfl rfl ?_
    refine q_iloadn (pc' := 14) 0 dX9_sunOf_13 rfl rfl ?_
    refine q_isub (pc' := 15) dX9_sunOf_14 rfl ?_
    refine p_iret dX9_sunOf_15 rfl ?_ ?_
    · unfold s_sun; omega
    · rfl
  · refine q_iloadn (pc' := 6) 0 dX9_sunOf_5 rfl rfl ?_
    refine q_iconst (pc' := 7) dX9_sunOf_6 rfl ?_
    refine q_iadd (pc' := 8) dX9_sunOf_7 rfl ?_
    refine q_goto (pc' := 15) dX9_sunOf_8 rfl ?_
    refine p_iret dX9_sunOf_15 rfl ?_ ?_
    · unfold s_sun; omega
    · rfl
set_option maxRecDepth 20000 in
set_option maxHeartbeats 4000000 in
theorem c_X9_shadow {Γ : q_G} {S : q_S} {a t b h : Int} (ok : s_ok (S 151)) (a0 : 0 ≤ a) (a1 : a < 6) (t0 : 0 ≤ t) (t1 : t ≤ 4) (b0 : 0 ≤ b) (b1 : b < 6) (h0 : 0 ≤ h) (h1 : h < 10) : q_Sp Γ mX9_shadow 1 0 0 [q_r Γ 150, q_i a, q_i t, q_i b, q_i h] (KC, S) (q_ev (some (q_i (s_sh (S 151) a t b h))) (KC, S)) := by
  show q_Go Γ mX9_shadow 1 0 0 0 [(0, q_r Γ 150), (1, q_i a), (2, q_i t), (3, q_i b), (4, q_i h)] [] (KC, S) (q_ev (some (q_i (s_sh (S 151) a t b h))) (KC, S))
  have pa := s_pt_b ok a0 a1
  have pb := s_pt_b ok b0 b1
  have sb := s_slope_b h0 h1
  have hm := q_mulb pa.2.1.1 pa.2.1.2 t0 t1
  refine q_iload (pc' := 2) 4 dX9_shadow_0 rfl rfl ?_
  refine q_iconst (pc' := 3) dX9_shadow_2 rfl ?_
  refine q_icmp_ge (tgt := 22) (pc' := 6) dX9_shadow_3 rfl rfl (by omega) (by decide) (fun qc_3 => ?_) (fun qc_3 => ?_)
  · refine q_aloadn (pc' := 23) 0 dX9_shadow_22 rfl rfl ?_
    refine q_iloadn (pc' := 24) 1 dX9_shadow_23 rfl rfl ?_
    refine q_iconst (pc' := 25) dX9_shadow_24 rfl ?_
    refine q_callVI (pc' := 28) dX9_shadow_25 rfl lX9_46 iX9_part kc150 rfl (c_X9_part (by omega) (by omega)) rfl rfl (Nat.le_of_ble_eq_true rfl) (Nat.le_of_ble_eq_true rfl) (Nat.le_of_ble_eq_true rfl) ?_
    refine q_aloadn (pc' := 29) 0 dX9_shadow_28 rfl rfl ?_
    refine q_iloadn (pc' := 30) 3 dX9_shadow_29 rfl rfl ?_
    refine q_iconst (pc' := 31) dX9_shadow_30 rfl ?_
    refine q_callVI (pc' := 34) dX9_shadow_31 rfl lX9_46 iX9_part kc150 rfl (c_X9_part (by omega) (by omega)) rfl rfl (Nat.le_of_ble_eq_true rfl) (Nat.le_of_ble_eq_true rfl) (Nat.le_of_ble_eq_true rfl) ?_
    refine q_isub (pc' := 35) dX9_shadow_34 rfl ?_
    refine q_istore (pc' := 37) (L' := [(5, q_i ((s_pt (S 151) a 0) - (s_pt (S 151) b 0))), (0, q_r Γ 150), (1, q_i a), (2, q_i t), (3, q_i b), (4, q_i h)]) dX9_shadow_35 rfl (by decide) rfl ?_
    have hd : ((s_pt (S 151) a 0) - (s_pt (S 151) b 0)) = s_dist (S 151) a b h := by unfold s_dist; omega
    refine q_iload (pc' := 39) 0 dX9_shadow_37 rfl rfl ?_
    refine q_if_gt (tgt := 44) (pc' := 42) dX9_shadow_39 rfl rfl (by omega) (fun qc_39 => ?_) (fun qc_39 => ?_)
    · refine q_iload (pc' := 46) 5 dX9_shadow_44 rfl rfl ?_
      refine q_callSI (pc' := 49) dX9_shadow_46 rfl lX9_50 iX9_slopeOf (c_X9_slopeOf (by omega) (by omega)) rfl rfl (Nat.le_of_ble_eq_true rfl) (Nat.le_of_ble_eq_true rfl) (Nat.le_of_ble_eq_true rfl) ?_
      refine q_istore (pc' := 51) (L' := [(6, q_i (s_slope h)), (5, q_i ((s_pt (S 151) a 0) - (s_pt (S 151) b 0))), (0, q_r Γ 150), (1, q_i a), (2, q_i t), (3, q_i b), (4, q_i h)]) dX9_shadow_49 rfl (by decide) rfl ?_
      refine q_aloadn (pc' := 52) 2 dX9_shadow_51 rfl rfl ?_
      refine q_iloadn (pc' := 53) 3 dX9_shadow_52 rfl rfl ?_
      refine q_iconst (pc' := 54) dX9_shadow_53 rfl ?_
      refine q_callVI (pc' := 57) dX9_shadow_54 rfl lX9_46 iX9_part kc150 rfl (c_X9_part (by omega) (by omega)) rfl rfl (Nat.le_of_ble_eq_true rfl) (Nat.le_of_ble_eq_true rfl) (Nat.le_of_ble_eq_true rfl) ?_
      refine q_iloadn (pc' := 58) 4 dX9_shadow_57 rfl rfl ?_
      refine q_imul (pc' := 59) dX9_shadow_58 rfl ?_
      refine q_iconst (pc' := 60) dX9_shadow_59 rfl ?_
      refine q_iload (pc' := 62) 1 dX9_shadow_60 rfl rfl ?_
      refine q_imul (pc' := 63) dX9_shadow_62 rfl ?_
      refine q_iload (pc' := 65) 0 dX9_shadow_63 rfl rfl ?_
      refine q_iadd (pc' := 66) dX9_shadow_65 rfl ?_
      refine q_iconst (pc' := 67) dX9_shadow_66 rfl ?_
      refine q_isub (pc' := 68) dX9_shadow_67 rfl ?_
      refine q_iload (pc' := 70) 0 dX9_shadow_68 rfl rfl ?_
      refine q_idiv (pc' := 71) dX9_shadow_70 rfl (by omega) (by omega) (by omega) (by omega) ?_
      refine q_isub (pc' := 72) dX9_shadow_71 rfl ?_
      refine p_top (fun qx_72 hqx_72 => ?_)
      refine q_istore (pc' := 74) (L' := [(7, q_i qx_72), (6, q_i (s_slope h)), (5, q_i ((s_pt (S 151) a 0) - (s_pt (S 151) b 0))), (0, q_r Γ 150), (1, q_i a), (2, q_i t), (3, q_i b), (4, q_i h)]) dX9_shadow_72 rfl (by decide) rfl ?_
      have hl : (2 * ((s_pt (S 151) a 0) - (s_pt (S 151) b 0)) + s_slope h - 1) / s_slope h = s_loss (S 151) a b h := by unfold s_loss; rw [← hd]
      have hb := s_loss_b ok a0 a1 b0 b1 h0 h1 (by omega)
      refine q_iload (pc' := 76) 0 dX9_shadow_74 rfl rfl ?_
      refine q_if_le (tgt := 84) (pc' := 79) dX9_shadow_76 rfl rfl (by omega) (fun qc_76 => ?_) (fun qc_76 => ?_)
      · refine q_iconst (pc' := 85) dX9_shadow_84 rfl ?_
        refine p_iret dX9_shadow_85 rfl ?_ ?_
        · unfold s_sh; omega
        · rfl
      · refine q_iload (pc' := 81) 0 dX9_shadow_79 rfl rfl ?_
        refine q_goto (pc' := 85) dX9_shadow_81 rfl ?_
        refine p_iret dX9_shadow_85 rfl ?_ ?_
        · unfold s_sh; omega
        · rfl
    · refine q_iconst (pc' := 43) dX9_shadow_42 rfl ?_
      refine p_iret dX9_shadow_43 rfl ?_ ?_
      · unfold s_sh; omega
      · rfl
  · refine q_aloadn (pc' := 7) 0 dX9_shadow_6 rfl rfl ?_
    refine q_iloadn (pc' := 8) 3 dX9_shadow_7 rfl rfl ?_
    refine q_iconst (pc' := 9) dX9_shadow_8 rfl ?_
    refine q_callVI (pc' := 12) dX9_shadow_9 rfl lX9_46 iX9_part kc150 rfl (c_X9_part (by omega) (by omega)) rfl rfl (Nat.le_of_ble_eq_true rfl) (Nat.le_of_ble_eq_true rfl) (Nat.le_of_ble_eq_true rfl) ?_
    refine q_aloadn (pc' := 13) 0 dX9_shadow_12 rfl rfl ?_
    refine q_iloadn (pc' := 14) 1 dX9_shadow_13 rfl rfl ?_
    refine q_iconst (pc' := 15) dX9_shadow_14 rfl ?_
    refine q_callVI (pc' := 18) dX9_shadow_15 rfl lX9_46 iX9_part kc150 rfl (c_X9_part (by omega) (by omega)) rfl rfl (Nat.le_of_ble_eq_true rfl) (Nat.le_of_ble_eq_true rfl) (Nat.le_of_ble_eq_true rfl) ?_
    refine q_isub (pc' := 19) dX9_shadow_18 rfl ?_
    refine q_goto (pc' := 35) dX9_shadow_19 rfl ?_
    refine q_istore (pc' := 37) (L' := [(5, q_i ((s_pt (S 151) b 0) - (s_pt (S 151) a 0))), (0, q_r Γ 150), (1, q_i a), (2, q_i t), (3, q_i b), (4, q_i h)]) dX9_shadow_35 rfl (by decide) rfl ?_
    have hd : ((s_pt (S 151) b 0) - (s_pt (S 151) a 0)) = s_dist (S 151) a b h := by unfold s_dist; omega
    refine q_iload (pc' := 39) 0 dX9_shadow_37 rfl rfl ?_
    refine q_if_gt (tgt := 44) (pc' := 42) dX9_shadow_39 rfl rfl (by omega) (fun qc_39_1 => ?_) (fun qc_39_1 => ?_)
    · refine q_iload (pc' := 46) 5 dX9_shadow_44 rfl rfl ?_
      refine q_callSI (pc' := 49) dX9_shadow_46 rfl lX9_50 iX9_slopeOf (c_X9_slopeOf (by omega) (by omega)) rfl rfl (Nat.le_of_ble_eq_true rfl) (Nat.le_of_ble_eq_true rfl) (Nat.le_of_ble_eq_true rfl) ?_
      refine q_istore (pc' := 51) (L' := [(6, q_i (s_slope h)), (5, q_i ((s_pt (S 151) b 0) - (s_pt (S 151) a 0))), (0, q_r Γ 150), (1, q_i a), (2, q_i t), (3, q_i b), (4, q_i h)]) dX9_shadow_49 rfl (by decide) rfl ?_
      refine q_aloadn (pc' := 52) 2 dX9_shadow_51 rfl rfl ?_
      refine q_iloadn (pc' := 53) 3 dX9_shadow_52 rfl rfl ?_
      refine q_iconst (pc' := 54) dX9_shadow_53 rfl ?_
      refine q_callVI (pc' := 57) dX9_shadow_54 rfl lX9_46 iX9_part kc150 rfl (c_X9_part (by omega) (by omega)) rfl rfl (Nat.le_of_ble_eq_true rfl) (Nat.le_of_ble_eq_true rfl) (Nat.le_of_ble_eq_true rfl) ?_
      refine q_iloadn (pc' := 58) 4 dX9_shadow_57 rfl rfl ?_
      refine q_imul (pc' := 59) dX9_shadow_58 rfl ?_
      refine q_iconst (pc' := 60) dX9_shadow_59 rfl ?_
      refine q_iload (pc' := 62) 1 dX9_shadow_60 rfl rfl ?_
      refine q_imul (pc' := 63) dX9_shadow_62 rfl ?_
      refine q_iload (pc' := 65) 0 dX9_shadow_63 rfl rfl ?_
      refine q_iadd (pc' := 66) dX9_shadow_65 rfl ?_
      refine q_iconst (pc' := 67) dX9_shadow_66 rfl ?_
      refine q_isub (pc' := 68) dX9_shadow_67 rfl ?_
      refine q_iload (pc' := 70) 0 dX9_shadow_68 rfl rfl ?_
      refine q_idiv (pc' := 71) dX9_shadow_70 rfl (by omega) (by omega) (by omega) (by omega) ?_
      refine q_isub (pc' := 72) dX9_shadow_71 rfl ?_
      refine p_top (fun qx_72_1 hqx_72_1 => ?_)
      refine q_istore (pc' := 74) (L' := [(7, q_i qx_72_1), (6, q_i (s_slope h)), (5, q_i ((s_pt (S 151) b 0) - (s_pt (S 151) a 0))), (0, q_r Γ 150), (1, q_i a), (2, q_i t), (3, q_i b), (4, q_i h)]) dX9_shadow_72 rfl (by decide) rfl ?_
      have hl : (2 * ((s_pt (S 151) b 0) - (s_pt (S 151) a 0)) + s_slope h - 1) / s_slope h = s_loss (S 151) a b h := by unfold s_loss; rw [← hd]
      have hb := s_loss_b ok a0 a1 b0 b1 h0 h1 (by omega)
      refine q_iload (pc' := 76) 0 dX9_shadow_74 rfl rfl ?_
      refine q_if_le (tgt := 84) (pc' := 79) dX9_shadow_76 rfl rfl (by omega) (fun qc_76_1 => ?_) (fun qc_76_1 => ?_)
      · refine q_iconst (pc' := 85) dX9_shadow_84 rfl ?_
        refine p_iret dX9_shadow_85 rfl ?_ ?_
        · unfold s_sh; omega
        · rfl
      · refine q_iload (pc' := 81) 0 dX9_shadow_79 rfl rfl ?_
        refine q_goto (pc' := 85) dX9_shadow_81 rfl ?_
        refine p_iret dX9_shadow_85 rfl ?_ ?_
        · unfold s_sh; omega
        · rfl
    · refine q_iconst (pc' := 43) dX9_shadow_42 rfl ?_
      refine p_iret dX9_shadow_43 rfl ?_ ?_
      · unfold s_sh; omega
      · rfl
set_option maxRecDepth 20000 in
set_option maxHeartbeats 4000000 in
theorem c_X9_isFlat {Γ : q_G} {S : q_S} {h : Int} (ok : s_ok (S 151)) (h0 : 0 ≤ h) (h1 : h < 10) : q_Sp Γ mX9_isFlat 0 0 0 [q_r Γ 150, q_i h] (KC, S) (q_ev (some (q_i (q_B (s_flat (S 151) h)))) (KC, S)) := by
  show q_Go Γ mX9_isFlat 0 0 0 0 [(0, q_r Γ 150), (1, q_i h)] [] (KC, S) (q_ev (some (q_i (q_B (s_flat (S 151) h)))) (KC, S))
  refine q_aloadn (pc' := 1) 0 dX9_isFlat_0 rfl rfl ?_
  refine p_getR (pc' := 4) (f := 151) dX9_isFlat_1 rfl fX9_7 kc150 rfl ?_
  refine q_iconst (pc' := 5) dX9_isFlat_4 rfl ?_
  refine q_iloadn (pc' := 6) 1 dX9_isFlat_5 rfl rfl ?_
  refine q_iadd (pc' := 7) dX9_isFlat_6 rfl ?_
  refine p_iald (pc' := 8) dX9_isFlat_7 rfl kc151 (by omega) (by omega) (by decide) (fun qy_7 eqy_7 rqy_7 => ?_)
  refine q_aloadn (pc' := 9) 0 dX9_isFlat_8 rfl rfl ?_
  refine p_getR (pc' := 12) (f := 151) dX9_isFlat_9 rfl fX9_7 kc150 rfl ?_
  refine q_iconst (pc' := 13) dX9_isFlat_12 rfl ?_
  refine p_iald (pc' := 14) dX9_isFlat_13 rfl kc151 (by omega) (by omega) (by decide) (fun qy_13 eqy_13 rqy_13 => ?_)
  refine q_icmp_lt (tgt := 21) (pc' := 17) dX9_isFlat_14 rfl rfl (by omega) (by omega) (fun qc_14 => ?_) (fun qc_14 => ?_)
  · refine q_iconst (pc' := 22) dX9_isFlat_21 rfl ?_
    refine p_zret dX9_isFlat_22 rfl ?_ ?_
    · first | exact (q_B_t (by unfold s_flat; omega)).symm | exact (q_B_f (by unfold s_flat; omega)).symm
    · rfl
  · refine q_iconst (pc' := 18) dX9_isFlat_17 rfl ?_
    refine q_goto (pc' := 22) dX9_isFlat_18 rfl ?_
    refine p_zret dX9_isFlat_22 rfl ?_ ?_
    · first | exact (q_B_t (by unfold s_flat; omega)).symm | exact (q_B_f (by unfold s_flat; omega)).symm
    · rfl
set_option maxRecDepth 20000 in
set_option maxHeartbeats 4000000 in
theorem c_X9_keepsRights {Γ : q_G} {S : q_S} {a t h : Int} (ok : s_ok (S 151)) (a0 : 0 ≤ a) (a1 : a < 6) (t0 : 0 ≤ t) (t1 : t ≤ 4) (h0 : 0 ≤ h) (h1 : h < 10) : q_Sp Γ mX9_keepsRights 2 0 0 [q_r Γ 150, q_i a, q_i t, q_i h] (KC, S) (q_ev (some (q_i (q_B (s_keeps (S 151) a t h)))) (KC, S)) := by
  show q_Go Γ mX9_keepsRights 2 0 0 0 [(0, q_r Γ 150), (1, q_i a), (2, q_i t), (3, q_i h)] [] (KC, S) (q_ev (some (q_i (q_B (s_keeps (S 151) a t h)))) (KC, S))
  have rw0 := s_rows_b ok
  refine q_iconst (pc' := 1) dX9_keepsRights_0 rfl ?_
  refine q_istore (pc' := 3) (L' := [(4, q_i 1), (0, q_r Γ 150), (1, q_i a), (2, q_i t), (3, q_i h)]) dX9_keepsRights_1 rfl (by decide) rfl ?_
  refine q_iconst (pc' := 4) dX9_keepsRights_3 rfl ?_
  refine q_istore (pc' := 6) (L' := [(5, q_i 0), (4, q_i 1), (0, q_r Γ 150), (1, q_i a), (2, q_i t), (3, q_i h)]) dX9_keepsRights_4 rfl (by decide) rfl ?_
  have qlp_6 : ∀ (qn_6 : Nat) (z k : Int), (0 ≤ k) → (k ≤ S 151 0) → (z = q_B (s_kN (S 151) a t h k)) → ((6 - k).toNat) = qn_6 → q_Go Γ mX9_keepsRights 2 0 0 6 [(0, q_r Γ 150), (1, q_i a), (2, q_i t), (3, q_i h), (4, q_i z), (5, q_i k)] [] (KC, S) (q_ev (some (q_i (q_B (s_keeps (S 151) a t h)))) (KC, S)) := by
    intro qn_6
    induction qn_6 using Nat.strongRecOn with
    | ind qn_6 qih_6 =>
      intro z k qa_6_0 qa_6_1 qa_6_2 qhn_6
      subst qhn_6
      have zr : (s_kN (S 151) a t h k ∧ z = 1) ∨ (¬ s_kN (S 151) a t h k ∧ z = 0) := by rw [qa_6_2]; exact q_B_or _
      refine q_iload (pc' := 8) 5 dX9_keepsRights_6 rfl rfl ?_
      refine q_aloadn (pc' := 9) 0 dX9_keepsRights_8 rfl rfl ?_
      refine p_getR (pc' := 12) (f := 151) dX9_keepsRights_9 rfl fX9_7 kc150 rfl ?_
      refine q_iconst (pc' := 13) dX9_keepsRights_12 rfl ?_
      refine p_iald (pc' := 14) dX9_keepsRights_13 rfl kc151 (by first | assumption | omega) (by first | assumption | omega) (by decide) (fun qy_13 eqy_13 rqy_13 => ?_)
      refine q_icmp_ge (tgt := 61) (pc' := 17) dX9_keepsRights_14 rfl rfl (by first | assumption | omega) (by first | assumption | omega) (fun qc_14 => ?_) (fun qc_14 => ?_)
      · refine q_iload (pc' := 63) 4 dX9_keepsRights_61 rfl rfl ?_
        refine p_zret dX9_keepsRights_63 rfl ?_ ?_
        · rw [qa_6_2]; exact q_B_congr (by rw [show k = S 151 0 by omega]; rfl)
        · rfl
      · refine q_iload (pc' := 19) 4 dX9_keepsRights_17 rfl rfl ?_
        refine q_if_eq (tgt := 52) (pc' := 22) dX9_keepsRights_19 rfl rfl (by first | assumption | omega) (fun qc_19 => ?_) (fun qc_19 => ?_)
        · refine q_iconst (pc' := 53) dX9_keepsRights_52 rfl ?_
          refine q_istore (pc' := 55) (L' := [(4, q_i 0), (0, q_r Γ 150), (1, q_i a), (2, q_i t), (3, q_i h), (5, q_i k)]) dX9_keepsRights_53 rfl (by decide) rfl ?_
          refine q_iinc (pc' := 58) 5 (L' := [(5, q_i (k + 1)), (4, q_i 0), (0, q_r Γ 150), (1, q_i a), (2, q_i t), (3, q_i h)]) dX9_keepsRights_55 rfl rfl (by decide) rfl ?_
          refine q_goto (pc' := 6) dX9_keepsRights_58 rfl ?_
          refine p_sub [2, 3, 4, 5, 1, 0] rfl ?_
          exact qih_6 _ (by omega) _ _ (by first | assumption | omega) (by first | assumption | omega) (by first | exact q_B_1 ((s_kN_s (by omega)).mpr ⟨(by rcases zr with q | q; exact q.1; omega), by omega⟩) | exact q_B_0 (fun q => by have q1 := (s_kN_s (by omega)).mp q; rcases zr with q2 | q2; omega; exact q2.1 q1.1)) rfl
        · refine q_iload (pc' := 24) 5 dX9_keepsRights_22 rfl rfl ?_
          refine q_iloadn (pc' := 25) 1 dX9_keepsRights_24 rfl rfl ?_
          refine q_icmp_eq (tgt := 48) (pc' := 28) dX9_keepsRights_25 rfl rfl (by first | assumption | omega) (by first | assumption | omega) (fun qc_25 => ?_) (fun qc_25 => ?_)
          · refine q_iconst (pc' := 49) dX9_keepsRights_48 rfl ?_
            refine q_goto (pc' := 53) dX9_keepsRights_49 rfl ?_
            refine q_istore (pc' := 55) (L' := [(4, q_i 1), (0, q_r Γ 150), (1, q_i a), (2, q_i t), (3, q_i h), (5, q_i k)]) dX9_keepsRights_53 rfl (by decide) rfl ?_
            refine q_iinc (pc' := 58) 5 (L' := [(5, q_i (k + 1)), (4, q_i 1), (0, q_r Γ 150), (1, q_i a), (2, q_i t), (3, q_i h)]) dX9_keepsRights_55 rfl rfl (by decide) rfl ?_
            refine q_goto (pc' := 6) dX9_keepsRights_58 rfl ?_
            refine p_sub [2, 3, 4, 5, 1, 0] rfl ?_
            exact qih_6 _ (by omega) _ _ (by first | assumption | omega) (by first | assumption | omega) (by first | exact q_B_1 ((s_kN_s (by omega)).mpr ⟨(by rcases zr with q | q; exact q.1; omega), by omega⟩) | exact q_B_0 (fun q => by have q1 := (s_kN_s (by omega)).mp q; rcases zr with q2 | q2; omega; exact q2.1 q1.1)) rfl
          · have b1 := s_sh_b ok a0 a1 t0 t1 (b := k) (by omega) (by omega) h0 h1
            have b2 := s_rt_b ok a0 a1 (b := k) (by omega) (by omega) h0 h1
            refine q_aloadn (pc' := 29) 0 dX9_keepsRights_28 rfl rfl ?_
            refine q_iloadn (pc' := 30) 1 dX9_keepsRights_29 rfl rfl ?_
            refine q_iloadn (pc' := 31) 2 dX9_keepsRights_30 rfl rfl ?_
            refine q_iload (pc' := 33) 5 dX9_keepsRights_31 rfl rfl ?_
            refine q_iloadn (pc' := 34) 3 dX9_keepsRights_33 rfl rfl ?_
            refine q_callVI (pc' := 37) dX9_keepsRights_34 rfl lX9_54 iX9_shadow kc150 rfl (c_X9_shadow (by first | assumption | omega) (by first | assumption | omega) (by first | assumption | omega) (by first | assumption | omega) (by first | assumption | omega) (by first | assumption | omega) (by first | assumption | omega) (by first | assumption | omega) (by first | assumption | omega)) rfl rfl (Nat.le_of_ble_eq_true rfl) (Nat.le_of_ble_eq_true rfl) (Nat.le_of_ble_eq_true rfl) ?_
            refine q_aloadn (pc' := 38) 0 dX9_keepsRights_37 rfl rfl ?_
            refine q_iloadn (pc' := 39) 1 dX9_keepsRights_38 rfl rfl ?_
            refine q_iload (pc' := 41) 5 dX9_keepsRights_39 rfl rfl ?_
            refine q_iloadn (pc' := 42) 3 dX9_keepsRights_41 rfl rfl ?_
            refine q_callVI (pc' := 45) dX9_keepsRights_42 rfl lX9_58 iX9_rightOf kc150 rfl (c_X9_rightOf (by first | assumption | omega) (by first | assumption | omega)) rfl rfl (Nat.le_of_ble_eq_true rfl) (Nat.le_of_ble_eq_true rfl) (Nat.le_of_ble_eq_true rfl) ?_
            refine q_icmp_gt (tgt := 52) (pc' := 48) dX9_keepsRights_45 rfl rfl (by first | assumption | omega) (by first | assumption | omega) (fun qc_45 => ?_) (fun qc_45 => ?_)
            · refine q_iconst (pc' := 53) dX9_keepsRights_52 rfl ?_
              refine q_istore (pc' := 55) (L' := [(4, q_i 0), (0, q_r Γ 150), (1, q_i a), (2, q_i t), (3, q_i h), (5, q_i k)]) dX9_keepsRights_53 rfl (by decide) rfl ?_
              refine q_iinc (pc' := 58) 5 (L' := [(5, q_i (k + 1)), (4, q_i 0), (0, q_r Γ 150), (1, q_i a), (2, q_i t), (3, q_i h)]) dX9_keepsRights_55 rfl rfl (by decide) rfl ?_
              refine q_goto (pc' := 6) dX9_keepsRights_58 rfl ?_
              refine p_sub [2, 3, 4, 5, 1, 0] rfl ?_
              exact qih_6 _ (by omega) _ _ (by first | assumption | omega) (by first | assumption | omega) (by first | exact q_B_1 ((s_kN_s (by omega)).mpr ⟨(by rcases zr with q | q; exact q.1; omega), by omega⟩) | exact q_B_0 (fun q => by have q1 := (s_kN_s (by omega)).mp q; rcases zr with q2 | q2; omega; exact q2.1 q1.1)) rfl
            · refine q_iconst (pc' := 49) dX9_keepsRights_48 rfl ?_
              refine q_goto (pc' := 53) dX9_keepsRights_49 rfl ?_
              refine q_istore (pc' := 55) (L' := [(4, q_i 1), (0, q_r Γ 150), (1, q_i a), (2, q_i t), (3, q_i h), (5, q_i k)]) dX9_keepsRights_53 rfl (by decide) rfl ?_
              refine q_iinc (pc' := 58) 5 (L' := [(5, q_i (k + 1)), (4, q_i 1), (0, q_r Γ 150), (1, q_i a), (2, q_i t), (3, q_i h)]) dX9_keepsRights_55 rfl rfl (by decide) rfl ?_
              refine q_goto (pc' := 6) dX9_keepsRights_58 rfl ?_
              refine p_sub [2, 3, 4, 5, 1, 0] rfl ?_
              exact qih_6 _ (by omega) _ _ (by first | assumption | omega) (by first | assumption | omega) (by first | exact q_B_1 ((s_kN_s (by omega)).mpr ⟨(by rcases zr with q | q; exact q.1; omega), by omega⟩) | exact q_B_0 (fun q => by have q1 := (s_kN_s (by omega)).mp q; rcases zr with q2 | q2; omega; exact q2.1 q1.1)) rfl
  refine p_sub [2, 3, 4, 5, 1, 0] rfl ?_
  exact qlp_6 _ _ _ (by first | assumption | omega) (by first | assumption | omega) (by exact q_B_1 (fun b b0 b1 => by omega)) rfl
set_option maxRecDepth 20000 in
set_option maxHeartbeats 4000000 in
theorem c_X9_tiltIn {Γ : q_G} {S : q_S} {r o h : Int} (ok : s_ok (S 151)) (r0 : 0 ≤ r) (r1 : r < 6) (o0 : 0 ≤ o) (o1 : o ≤ 4) (h0 : 0 ≤ h) (h1 : h < 10) : q_Sp Γ mX9_tiltIn 3 0 0 [q_r Γ 150, q_i r, q_i o, q_i h] (KC, S) (q_ev (some (q_i (s_ti (S 151) r o h))) (KC, S)) := by
  show q_Go Γ mX9_tiltIn 3 0 0 0 [(0, q_r Γ 150), (1, q_i r), (2, q_i o), (3, q_i h)] [] (KC, S) (q_ev (some (q_i (s_ti (S 151) r o h))) (KC, S))
  refine q_aloadn (pc' := 1) 0 dX9_tiltIn_0 rfl rfl ?_
  refine q_iloadn (pc' := 2) 3 dX9_tiltIn_1 rfl rfl ?_
  refine q_callVI (pc' := 5) dX9_tiltIn_2 rfl lX9_62 iX9_isFlat kc150 rfl (c_X9_isFlat (by first | assumption | omega) (by first | assumption | omega) (by first | assumption | omega)) rfl rfl (Nat.le_of_ble_eq_true rfl) (Nat.le_of_ble_eq_true rfl) (Nat.le_of_ble_eq_true rfl) ?_
  refine q_if_eq_B (tgt := 12) (pc' := 8) dX9_tiltIn_5 rfl rfl (fun qc_5 => ?_) (fun qc_5 => ?_)
  · refine q_iloadn (pc' := 13) 2 dX9_tiltIn_12 rfl rfl ?_
    refine q_istore (pc' := 15) (L' := [(4, q_i o), (0, q_r Γ 150), (1, q_i r), (2, q_i o), (3, q_i h)]) dX9_tiltIn_13 rfl (by decide) rfl ?_
    have qlp_15 : ∀ (qn_15 : Nat) (t : Int), (0 ≤ t) → (t ≤ 4) → (s_ti (S 151) r o h = s_dn (fun t => s_keeps (S 151) r t h) t.toNat) → (t.toNat) = qn_15 → q_Go Γ mX9_tiltIn 3 0 0 15 [(0, q_r Γ 150), (1, q_i r), (3, q_i h), (4, q_i t)] [] (KC, S) (q_ev (some (q_i (s_ti (S 151) r o h))) (KC, S)) := by
      intro qn_15
      induction qn_15 using Nat.strongRecOn with
      | ind qn_15 qih_15 =>
        intro t qa_15_0 qa_15_1 qa_15_2 qhn_15
        subst qhn_15
        refine q_iload (pc' := 17) 3 dX9_tiltIn_15 rfl rfl ?_
        refine q_if_le (tgt := 37) (pc' := 20) dX9_tiltIn_17 rfl rfl (by first | assumption | omega) (fun qc_17 => ?_) (fun qc_17 => ?_)
        · refine q_iload (pc' := 39) 3 dX9_tiltIn_37 rfl rfl ?_
          refine p_iret dX9_tiltIn_39 rfl ?_ ?_
          · first | (rw [qa_15_2, show t = 0 by omega]; rfl) | (rw [qa_15_2]; exact (s_dn_t (P := fun t => s_keeps (S 151) r t h) (by omega) qnone_).symm)
          · rfl
        · refine q_aloadn (pc' := 21) 0 dX9_tiltIn_20 rfl rfl ?_
          refine q_iloadn (pc' := 22) 1 dX9_tiltIn_21 rfl rfl ?_
          refine q_iload (pc' := 24) 3 dX9_tiltIn_22 rfl rfl ?_
          refine q_iloadn (pc' := 25) 2 dX9_tiltIn_24 rfl rfl ?_
          refine q_callVI (pc' := 28) dX9_tiltIn_25 rfl lX9_66 iX9_keepsRights kc150 rfl (c_X9_keepsRights (by first | assumption | omega) (by first | assumption | omega) (by first | assumption | omega) (by first | assumption | omega) (by first | assumption | omega) (by first | assumption | omega) (by first | assumption | omega)) rfl rfl (Nat.le_of_ble_eq_true rfl) (Nat.le_of_ble_eq_true rfl) (Nat.le_of_ble_eq_true rfl) ?_
          refine q_if_ne_B (tgt := 37) (pc' := 31) dX9_tiltIn_28 rfl rfl (fun qc_28 => ?_) (fun qc_28 => ?_)
          · refine q_iload (pc' := 39) 3 dX9_tiltIn_37 rfl rfl ?_
            refine p_iret dX9_tiltIn_39 rfl ?_ ?_
            · first | (rw [qa_15_2, show t = 0 by omega]; rfl) | (rw [qa_15_2]; exact (s_dn_t (P := fun t => s_keeps (S 151) r t h) (by omega) qc_28).symm)
            · rfl
          · refine q_iinc (pc' := 34) 3 (L' := [(4, q_i (t + (-1))), (0, q_r Γ 150), (1, q_i r), (3, q_i h)]) dX9_tiltIn_31 rfl rfl (by decide) rfl ?_
            refine q_goto (pc' := 15) dX9_tiltIn_34 rfl ?_
            refine p_sub [1, 2, 3, 0] rfl ?_
            exact qih_15 _ (by omega) _ (by first | assumption | omega) (by first | assumption | omega) (by rw [qa_15_2, s_dn_f (P := fun t => s_keeps (S 151) r t h) (by omega) qc_28]; rfl) rfl
    refine p_sub [1, 2, 4, 0] rfl ?_
    exact qlp_15 _ _ (by first | assumption | omega) (by first | assumption | omega) (by first | exact q_if_t qc_5 | exact q_if_f qc_5) rfl
  · refine q_iconst (pc' := 9) dX9_tiltIn_8 rfl ?_
    refine q_goto (pc' := 13) dX9_tiltIn_9 rfl ?_
    refine q_istore (pc' := 15) (L' := [(4, q_i 0), (0, q_r Γ 150), (1, q_i r), (2, q_i o), (3, q_i h)]) dX9_tiltIn_13 rfl (by decide) rfl ?_
    have qlp_15_1 : ∀ (qn_15_1 : Nat) (t : Int), (0 ≤ t) → (t ≤ 4) → (s_ti (S 151) r o h = s_dn (fun t => s_keeps (S 151) r t h) t.toNat) → (t.toNat) = qn_15_1 → q_Go Γ mX9_tiltIn 3 0 0 15 [(0, q_r Γ 150), (1, q_i r), (3, q_i h), (4, q_i t)] [] (KC, S) (q_ev (some (q_i (s_ti (S 151) r o h))) (KC, S)) := by
      intro qn_15_1
      induction qn_15_1 using Nat.strongRecOn with
      | ind qn_15_1 qih_15_1 =>
        intro t qa_15_1_0 qa_15_1_1 qa_15_1_2 qhn_15_1
        subst qhn_15_1
        refine q_iload (pc' := 17) 3 dX9_tiltIn_15 rfl rfl ?_
        refine q_if_le (tgt := 37) (pc' := 20) dX9_tiltIn_17 rfl rfl (by first | assumption | omega) (fun qc_17_1 => ?_) (fun qc_17_1 => ?_)
        · refine q_iload (pc' := 39) 3 dX9_tiltIn_37 rfl rfl ?_
          refine p_iret dX9_tiltIn_39 rfl ?_ ?_
          · first | (rw [qa_15_1_2, show t = 0 by omega]; rfl) | (rw [qa_15_1_2]; exact (s_dn_t (P := fun t => s_keeps (S 151) r t h) (by omega) qnone_).symm)
          · rfl
        · refine q_aloadn (pc' := 21) 0 dX9_tiltIn_20 rfl rfl ?_
          refine q_iloadn (pc' := 22) 1 dX9_tiltIn_21 rfl rfl ?_
          refine q_iload (pc' := 24) 3 dX9_tiltIn_22 rfl rfl ?_
          refine q_iloadn (pc' := 25) 2 dX9_tiltIn_24 rfl rfl ?_
          refine q_callVI (pc' := 28) dX9_tiltIn_25 rfl lX9_66 iX9_keepsRights kc150 rfl (c_X9_keepsRights (by first | assumption | omega) (by first | assumption | omega) (by first | assumption | omega) (by first | assumption | omega) (by first | assumption | omega) (by first | assumption | omega) (by first | assumption | omega)) rfl rfl (Nat.le_of_ble_eq_true rfl) (Nat.le_of_ble_eq_true rfl) (Nat.le_of_ble_eq_true rfl) ?_
          refine q_if_ne_B (tgt := 37) (pc' := 31) dX9_tiltIn_28 rfl rfl (fun qc_28_1 => ?_) (fun qc_28_1 => ?_)
          · refine q_iload (pc' := 39) 3 dX9_tiltIn_37 rfl rfl ?_
            refine p_iret dX9_tiltIn_39 rfl ?_ ?_
            · first | (rw [qa_15_1_2, show t = 0 by omega]; rfl) | (rw [qa_15_1_2]; exact (s_dn_t (P := fun t => s_keeps (S 151) r t h) (by omega) qc_28_1).symm)
            · rfl
          · refine q_iinc (pc' := 34) 3 (L' := [(4, q_i (t + (-1))), (0, q_r Γ 150), (1, q_i r), (3, q_i h)]) dX9_tiltIn_31 rfl rfl (by decide) rfl ?_
            refine q_goto (pc' := 15) dX9_tiltIn_34 rfl ?_
            refine p_sub [1, 2, 3, 0] rfl ?_
            exact qih_15_1 _ (by omega) _ (by first | assumption | omega) (by first | assumption | omega) (by rw [qa_15_1_2, s_dn_f (P := fun t => s_keeps (S 151) r t h) (by omega) qc_28_1]; rfl) rfl
    refine p_sub [1, 2, 4, 0] rfl ?_
    exact qlp_15_1 _ _ (by first | assumption | omega) (by first | assumption | omega) (by first | exact q_if_t qc_5 | exact q_if_f qc_5) rfl
set_option maxRecDepth 20000 in
set_option maxHeartbeats 4000000 in
theorem c_X9_heightIn {Γ : q_G} {S : q_S} {r h : Int} (ok : s_ok (S 151)) (r0 : 0 ≤ r) (r1 : r < 6) (h0 : 0 ≤ h) (h1 : h < 10) : q_Sp Γ mX9_heightIn 4 0 0 [q_r Γ 150, q_i r, q_i h] (KC, S) (q_ev (some (q_i (s_he (S 151) r h))) (KC, S)) := by
  show q_Go Γ mX9_heightIn 4 0 0 0 [(0, q_r Γ 150), (1, q_i r), (2, q_i h)] [] (KC, S) (q_ev (some (q_i (s_he (S 151) r h))) (KC, S))
  have pa := s_pt_b ok r0 r1
  refine q_aloadn (pc' := 1) 0 dX9_heightIn_0 rfl rfl ?_
  refine q_iloadn (pc' := 2) 1 dX9_heightIn_1 rfl rfl ?_
  refine q_iconst (pc' := 3) dX9_heightIn_2 rfl ?_
  refine q_callVI (pc' := 6) dX9_heightIn_3 rfl lX9_46 iX9_part kc150 rfl (c_X9_part (by first | assumption | omega) (by first | assumption | omega)) rfl rfl (Nat.le_of_ble_eq_true rfl) (Nat.le_of_ble_eq_true rfl) (Nat.le_of_ble_eq_true rfl) ?_
  refine q_aloadn (pc' := 7) 0 dX9_heightIn_6 rfl rfl ?_
  refine q_iloadn (pc' := 8) 1 dX9_heightIn_7 rfl rfl ?_
  refine q_aloadn (pc' := 9) 0 dX9_heightIn_8 rfl rfl ?_
  refine q_iloadn (pc' := 10) 1 dX9_heightIn_9 rfl rfl ?_
  refine q_iconst (pc' := 11) dX9_heightIn_10 rfl ?_
  refine q_callVI (pc' := 14) dX9_heightIn_11 rfl lX9_46 iX9_part kc150 rfl (c_X9_part (by first | assumption | omega) (by first | assumption | omega)) rfl rfl (Nat.le_of_ble_eq_true rfl) (Nat.le_of_ble_eq_true rfl) (Nat.le_of_ble_eq_true rfl) ?_
  refine q_iloadn (pc' := 15) 2 dX9_heightIn_14 rfl rfl ?_
  refine q_callVI (pc' := 18) dX9_heightIn_15 rfl lX9_69 iX9_tiltIn kc150 rfl (c_X9_tiltIn (by first | assumption | omega) (by first | assumption | omega) (by first | assumption | omega) (by first | assumption | omega) (by first | assumption | omega) (by first | assumption | omega) (by first | assumption | omega)) rfl rfl (Nat.le_of_ble_eq_true rfl) (Nat.le_of_ble_eq_true rfl) (Nat.le_of_ble_eq_true rfl) ?_
  refine q_imul (pc' := 19) dX9_heightIn_18 rfl ?_
  refine p_iret dX9_heightIn_19 rfl ?_ ?_
  · rfl
  · rfl
set_option maxRecDepth 20000 in
set_option maxHeartbeats 4000000 in
theorem c_X9_shadowIn {Γ : q_G} {S : q_S} {a b h : Int} (ok : s_ok (S 151)) (a0 : 0 ≤ a) (a1 : a < 6) (b0 : 0 ≤ b) (b1 : b < 6) (h0 : 0 ≤ h) (h1 : h < 10) : q_Sp Γ mX9_shadowIn 4 0 0 [q_r Γ 150, q_i a, q_i b, q_i h] (KC, S) (q_ev (some (q_i (s_si (S 151) a b h))) (KC, S)) := by
  show q_Go Γ mX9_shadowIn 4 0 0 0 [(0, q_r Γ 150), (1, q_i a), (2, q_i b), (3, q_i h)] [] (KC, S) (q_ev (some (q_i (s_si (S 151) a b h))) (KC, S))
  have pa := s_pt_b ok a0 a1
  have pt := s_tio_b ok h a0 a1
  refine q_aloadn (pc' := 1) 0 dX9_shadowIn_0 rfl rfl ?_
  refine q_iloadn (pc' := 2) 1 dX9_shadowIn_1 rfl rfl ?_
  refine q_aloadn (pc' := 3) 0 dX9_shadowIn_2 rfl rfl ?_
  refine q_iloadn (pc' := 4) 1 dX9_shadowIn_3 rfl rfl ?_
  refine q_aloadn (pc' := 5) 0 dX9_shadowIn_4 rfl rfl ?_
  refine q_iloadn (pc' := 6) 1 dX9_shadowIn_5 rfl rfl ?_
  refine q_iconst (pc' := 7) dX9_shadowIn_6 rfl ?_
  refine q_callVI (pc' := 10) dX9_shadowIn_7 rfl lX9_46 iX9_part kc150 rfl (c_X9_part (by first | assumption | omega) (by first | assumption | omega)) rfl rfl (Nat.le_of_ble_eq_true rfl) (Nat.le_of_ble_eq_true rfl) (Nat.le_of_ble_eq_true rfl) ?_
  refine q_iloadn (pc' := 11) 3 dX9_shadowIn_10 rfl rfl ?_
  refine q_callVI (pc' := 14) dX9_shadowIn_11 rfl lX9_69 iX9_tiltIn kc150 rfl (c_X9_tiltIn (by first | assumption | omega) (by first | assumption | omega) (by first | assumption | omega) (by first | assumption | omega) (by first | assumption | omega) (by first | assumption | omega) (by first | assumption | omega)) rfl rfl (Nat.le_of_ble_eq_true rfl) (Nat.le_of_ble_eq_true rfl) (Nat.le_of_ble_eq_true rfl) ?_
  refine q_iloadn (pc' := 15) 2 dX9_shadowIn_14 rfl rfl ?_
  refine q_iloadn (pc' := 16) 3 dX9_shadowIn_15 rfl rfl ?_
  refine q_callVI (pc' := 19) dX9_shadowIn_16 rfl lX9_54 iX9_shadow kc150 rfl (c_X9_shadow (by first | assumption | omega) (by first | assumption | omega) (by first | assumption | omega) (by first | assumption | omega) (by first | assumption | omega) (by first | assumption | omega) (by first | assumption | omega) (by first | assumption | omega) (by first | assumption | omega)) rfl rfl (Nat.le_of_ble_eq_true rfl) (Nat.le_of_ble_eq_true rfl) (Nat.le_of_ble_eq_true rfl) ?_
  refine p_iret dX9_shadowIn_19 rfl ?_ ?_
  · rfl
  · rfl
set_option maxRecDepth 20000 in
set_option maxHeartbeats 4000000 in
theorem c_X9_far {Γ : q_G} {S : q_S} {a b : Int} (ok : s_ok (S 151)) (a0 : 0 ≤ a) (a1 : a < 6) (b0 : 0 ≤ b) (b1 : b < 6) : q_Sp Γ mX9_far 1 0 0 [q_r Γ 150, q_i a, q_i b] (KC, S) (q_ev (some (q_i (s_far (S 151) a b))) (KC, S)) := by
  show q_Go Γ mX9_far 1 0 0 0 [(0, q_r Γ 150), (1, q_i a), (2, q_i b)] [] (KC, S) (q_ev (some (q_i (s_far (S 151) a b))) (KC, S))
  have pa := s_pt_b ok a0 a1
  have pb := s_pt_b ok b0 b1
  refine q_aloadn (pc' := 1) 0 dX9_far_0 rfl rfl ?_
  refine q_iloadn (pc' := 2) 1 dX9_far_1 rfl rfl ?_
  refine q_iconst (pc' := 3) dX9_far_2 rfl ?_
  refine q_callVI (pc' := 6) dX9_far_3 rfl lX9_46 iX9_part kc150 rfl (c_X9_part (by first | assumption | omega) (by first | assumption | omega)) rfl rfl (Nat.le_of_ble_eq_true rfl) (Nat.le_of_ble_eq_true rfl) (Nat.le_of_ble_eq_true rfl) ?_
  refine q_aloadn (pc' := 7) 0 dX9_far_6 rfl rfl ?_
  refine q_iloadn (pc' := 8) 2 dX9_far_7 rfl rfl ?_
  refine q_iconst (pc' := 9) dX9_far_8 rfl ?_
  refine q_callVI (pc' := 12) dX9_far_9 rfl lX9_46 iX9_part kc150 rfl (c_X9_part (by first | assumption | omega) (by first | assumption | omega)) rfl rfl (Nat.le_of_ble_eq_true rfl) (Nat.le_of_ble_eq_true rfl) (Nat.le_of_ble_eq_true rfl) ?_
  refine q_isub (pc' := 13) dX9_far_12 rfl ?_
  refine q_istoren (pc' := 14) (L' := [(3, q_i ((s_pt (S 151) a 0) - (s_pt (S 151) b 0))), (0, q_r Γ 150), (1, q_i a), (2, q_i b)]) dX9_far_13 rfl rfl (by decide) rfl ?_
  refine q_iloadn (pc' := 15) 0 dX9_far_14 rfl rfl ?_
  refine q_if_ge (tgt := 23) (pc' := 18) dX9_far_15 rfl rfl (by first | assumption | omega) (fun qc_15 => ?_) (fun qc_15 => ?_)
  · refine q_iloadn (pc' := 24) 0 dX9_far_23 rfl rfl ?_
    refine p_iret dX9_far_24 rfl ?_ ?_
    · unfold s_far; omega
    · rfl
  · refine q_iloadn (pc' := 19) 0 dX9_far_18 rfl rfl ?_
    refine q_ineg (pc' := 20) dX9_far_19 rfl ?_
    refine q_goto (pc' := 24) dX9_far_20 rfl ?_
    refine p_iret dX9_far_24 rfl ?_ ?_
    · unfold s_far; omega
    · rfl
set_option maxRecDepth 20000 in
set_option maxHeartbeats 4000000 in
theorem c_X9_blamed {Γ : q_G} {S : q_S} {r h : Int} (ok : s_ok (S 151)) (r0 : 0 ≤ r) (r1 : r < 6) (h0 : 0 ≤ h) (h1 : h < 10) : q_Sp Γ mX9_blamed 5 0 0 [q_r Γ 150, q_i r, q_i h] (KC, S) (q_ev (some (q_i (s_bl (S 151) r h))) (KC, S)) := by
  show q_Go Γ mX9_blamed 5 0 0 0 [(0, q_r Γ 150), (1, q_i r), (2, q_i h)] [] (KC, S) (q_ev (some (q_i (s_bl (S 151) r h))) (KC, S))
  have rw0 := s_rows_b ok
  refine q_bipush (pc' := 2) dX9_blamed_0 rfl rfl ?_
  refine q_istoren (pc' := 3) (L' := [(3, q_i (-6)), (0, q_r Γ 150), (1, q_i r), (2, q_i h)]) dX9_blamed_2 rfl rfl (by decide) rfl ?_
  refine q_iconst (pc' := 4) dX9_blamed_3 rfl ?_
  refine q_istore (pc' := 6) (L' := [(4, q_i 0), (3, q_i (-6)), (0, q_r Γ 150), (1, q_i r), (2, q_i h)]) dX9_blamed_4 rfl (by decide) rfl ?_
  refine q_iconst (pc' := 7) dX9_blamed_6 rfl ?_
  refine q_istore (pc' := 9) (L' := [(5, q_i 0), (4, q_i 0), (3, q_i (-6)), (0, q_r Γ 150), (1, q_i r), (2, q_i h)]) dX9_blamed_7 rfl (by decide) rfl ?_
  have qlp_9 : ∀ (qn_9 : Nat) (best most k : Int), (0 ≤ k) → (k ≤ S 151 0) → (best = (s_bN (S 151) r h k.toNat).1) → (most = (s_bN (S 151) r h k.toNat).2) → ((6 - k).toNat) = qn_9 → q_Go Γ mX9_blamed 5 0 0 9 [(0, q_r Γ 150), (1, q_i r), (2, q_i h), (3, q_i best), (4, q_i most), (5, q_i k)] [] (KC, S) (q_ev (some (q_i (s_bl (S 151) r h))) (KC, S)) := by
    intro qn_9
    induction qn_9 using Nat.strongRecOn with
    | ind qn_9 qih_9 =>
      intro best most k qa_9_0 qa_9_1 qa_9_2 qa_9_3 qhn_9
      subst qhn_9
      have bb := s_bN_b ok r0 r1 h0 h1 k.toNat (by omega)
      rw [← qa_9_2, ← qa_9_3] at bb
      refine q_iload (pc' := 11) 5 dX9_blamed_9 rfl rfl ?_
      refine q_aloadn (pc' := 12) 0 dX9_blamed_11 rfl rfl ?_
      refine p_getR (pc' := 15) (f := 151) dX9_blamed_12 rfl fX9_7 kc150 rfl ?_
      refine q_iconst (pc' := 16) dX9_blamed_15 rfl ?_
      refine p_iald (pc' := 17) dX9_blamed_16 rfl kc151 (by first | assumption | omega) (by first | assumption | omega) (by decide) (fun qy_16 eqy_16 rqy_16 => ?_)
      refine q_icmp_ge (tgt := 114) (pc' := 20) dX9_blamed_17 rfl rfl (by first | assumption | omega) (by first | assumption | omega) (fun qc_17 => ?_) (fun qc_17 => ?_)
      · refine q_iloadn (pc' := 115) 3 dX9_blamed_114 rfl rfl ?_
        refine p_iret dX9_blamed_115 rfl ?_ ?_
        · rw [qa_9_2, show k = S 151 0 by omega]; rfl
        · rfl
      · refine q_iload (pc' := 22) 5 dX9_blamed_20 rfl rfl ?_
        refine q_iloadn (pc' := 23) 1 dX9_blamed_22 rfl rfl ?_
        refine q_icmp_ne (tgt := 30) (pc' := 26) dX9_blamed_23 rfl rfl (by first | assumption | omega) (by first | assumption | omega) (fun qc_23 => ?_) (fun qc_23 => ?_)
        · have b1 := s_si_b ok (a := k) (by omega) (by omega) r0 r1 h0 h1
          refine q_aloadn (pc' := 31) 0 dX9_blamed_30 rfl rfl ?_
          refine q_iload (pc' := 33) 5 dX9_blamed_31 rfl rfl ?_
          refine q_iloadn (pc' := 34) 1 dX9_blamed_33 rfl rfl ?_
          refine q_iloadn (pc' := 35) 2 dX9_blamed_34 rfl rfl ?_
          refine q_callVI (pc' := 38) dX9_blamed_35 rfl lX9_72 iX9_shadowIn kc150 rfl (c_X9_shadowIn (by first | assumption | omega) (by first | assumption | omega) (by first | assumption | omega) (by first | assumption | omega) (by first | assumption | omega) (by first | assumption | omega) (by first | assumption | omega)) rfl rfl (Nat.le_of_ble_eq_true rfl) (Nat.le_of_ble_eq_true rfl) (Nat.le_of_ble_eq_true rfl) ?_
          have hu : (s_si (S 151) k r h) = s_up (S 151) r h k := by first | exact (if_neg qc_23).symm | exact (if_pos qc_23).symm
          refine q_istore (pc' := 40) (L' := [(6, q_i (s_si (S 151) k r h)), (0, q_r Γ 150), (1, q_i r), (2, q_i h), (3, q_i best), (4, q_i most), (5, q_i k)]) dX9_blamed_38 rfl (by decide) rfl ?_
          refine q_iload (pc' := 42) 0 dX9_blamed_40 rfl rfl ?_
          refine q_iload (pc' := 44) 5 dX9_blamed_42 rfl rfl ?_
          refine q_icmp_gt (tgt := 75) (pc' := 47) dX9_blamed_44 rfl rfl (by first | assumption | omega) (by first | assumption | omega) (fun qc_44 => ?_) (fun qc_44 => ?_)
          · refine q_iconst (pc' := 76) dX9_blamed_75 rfl ?_
            refine q_goto (pc' := 80) dX9_blamed_76 rfl ?_
            refine q_istore (pc' := 82) (L' := [(7, q_i 1), (6, q_i (s_si (S 151) k r h)), (0, q_r Γ 150), (1, q_i r), (2, q_i h), (3, q_i best), (4, q_i most), (5, q_i k)]) dX9_blamed_80 rfl (by decide) rfl ?_
            refine q_iload (pc' := 84) 0 dX9_blamed_82 rfl rfl ?_
            refine q_if_eq (tgt := 92) (pc' := 87) dX9_blamed_84 rfl rfl (by decide) (fun qc_84 => absurd qc_84 (by decide)) (fun qc_84 => ?_)
            refine q_iload (pc' := 89) 7 dX9_blamed_87 rfl rfl ?_
            refine q_goto (pc' := 93) dX9_blamed_89 rfl ?_
            refine q_istoren (pc' := 94) (L' := [(3, q_i k), (7, q_i 1), (6, q_i (s_si (S 151) k r h)), (0, q_r Γ 150), (1, q_i r), (2, q_i h), (4, q_i most), (5, q_i k)]) dX9_blamed_93 rfl rfl (by decide) rfl ?_
            refine q_iload (pc' := 96) 1 dX9_blamed_94 rfl rfl ?_
            refine q_if_eq (tgt := 104) (pc' := 99) dX9_blamed_96 rfl rfl (by decide) (fun qc_96 => absurd qc_96 (by decide)) (fun qc_96 => ?_)
            refine q_iload (pc' := 101) 2 dX9_blamed_99 rfl rfl ?_
            refine q_goto (pc' := 106) dX9_blamed_101 rfl ?_
            refine q_istore (pc' := 108) (L' := [(4, q_i (s_si (S 151) k r h)), (3, q_i k), (7, q_i 1), (6, q_i (s_si (S 151) k r h)), (0, q_r Γ 150), (1, q_i r), (2, q_i h), (5, q_i k)]) dX9_blamed_106 rfl (by decide) rfl ?_
            refine q_iinc (pc' := 111) 7 (L' := [(5, q_i (k + 1)), (4, q_i (s_si (S 151) k r h)), (3, q_i k), (7, q_i 1), (6, q_i (s_si (S 151) k r h)), (0, q_r Γ 150), (1, q_i r), (2, q_i h)]) dX9_blamed_108 rfl rfl (by decide) rfl ?_
            refine q_goto (pc' := 9) dX9_blamed_111 rfl ?_
            refine p_sub [5, 6, 7, 2, 1, 0] rfl ?_
            exact qih_9 _ (by omega) _ _ _ (by first | assumption | omega) (by first | assumption | omega) (by rw [s_bN_s (by omega), ← qa_9_2, ← qa_9_3, ← hu]; first | exact (q_if_t (by unfold s_more; omega)).symm | exact (q_if_f (by unfold s_more; omega)).symm) (by rw [s_bN_s (by omega), ← qa_9_2, ← qa_9_3, ← hu]; first | exact (q_if_t (by unfold s_more; omega)).symm | exact (q_if_f (by unfold s_more; omega)).symm) rfl
          · refine q_iload (pc' := 49) 0 dX9_blamed_47 rfl rfl ?_
            refine q_if_le (tgt := 79) (pc' := 52) dX9_blamed_49 rfl rfl (by first | assumption | omega) (fun qc_49 => ?_) (fun qc_49 => ?_)
            · refine q_iconst (pc' := 80) dX9_blamed_79 rfl ?_
              refine q_istore (pc' := 82) (L' := [(7, q_i 0), (6, q_i (s_si (S 151) k r h)), (0, q_r Γ 150), (1, q_i r), (2, q_i h), (3, q_i best), (4, q_i most), (5, q_i k)]) dX9_blamed_80 rfl (by decide) rfl ?_
              refine q_iload (pc' := 84) 0 dX9_blamed_82 rfl rfl ?_
              refine q_if_eq (tgt := 92) (pc' := 87) dX9_blamed_84 rfl rfl (by decide) (fun qc_84_1 => ?_) (fun qc_84_1 => absurd qc_84_1 (by decide))
              refine q_iloadn (pc' := 93) 5 dX9_blamed_92 rfl rfl ?_
              refine q_istoren (pc' := 94) (L' := [(3, q_i best), (7, q_i 0), (6, q_i (s_si (S 151) k r h)), (0, q_r Γ 150), (1, q_i r), (2, q_i h), (4, q_i most), (5, q_i k)]) dX9_blamed_93 rfl rfl (by decide) rfl ?_
              refine q_iload (pc' := 96) 1 dX9_blamed_94 rfl rfl ?_
              refine q_if_eq (tgt := 104) (pc' := 99) dX9_blamed_96 rfl rfl (by decide) (fun qc_96_1 => ?_) (fun qc_96_1 => absurd qc_96_1 (by decide))
              refine q_iload (pc' := 106) 6 dX9_blamed_104 rfl rfl ?_
              refine q_istore (pc' := 108) (L' := [(4, q_i most), (3, q_i best), (7, q_i 0), (6, q_i (s_si (S 151) k r h)), (0, q_r Γ 150), (1, q_i r), (2, q_i h), (5, q_i k)]) dX9_blamed_106 rfl (by decide) rfl ?_
              refine q_iinc (pc' := 111) 7 (L' := [(5, q_i (k + 1)), (4, q_i most), (3, q_i best), (7, q_i 0), (6, q_i (s_si (S 151) k r h)), (0, q_r Γ 150), (1, q_i r), (2, q_i h)]) dX9_blamed_108 rfl rfl (by decide) rfl ?_
              refine q_goto (pc' := 9) dX9_blamed_111 rfl ?_
              refine p_sub [5, 6, 7, 2, 1, 0] rfl ?_
              exact qih_9 _ (by omega) _ _ _ (by first | assumption | omega) (by first | assumption | omega) (by rw [s_bN_s (by omega), ← qa_9_2, ← qa_9_3, ← hu]; first | exact (q_if_t (by unfold s_more; omega)).symm | exact (q_if_f (by unfold s_more; omega)).symm) (by rw [s_bN_s (by omega), ← qa_9_2, ← qa_9_3, ← hu]; first | exact (q_if_t (by unfold s_more; omega)).symm | exact (q_if_f (by unfold s_more; omega)).symm) rfl
            · refine q_iload (pc' := 54) 0 dX9_blamed_52 rfl rfl ?_
              refine q_iload (pc' := 56) 5 dX9_blamed_54 rfl rfl ?_
              refine q_icmp_ne (tgt := 79) (pc' := 59) dX9_blamed_56 rfl rfl (by first | assumption | omega) (by first | assumption | omega) (fun qc_56 => ?_) (fun qc_56 => ?_)
              · refine q_iconst (pc' := 80) dX9_blamed_79 rfl ?_
                refine q_istore (pc' := 82) (L' := [(7, q_i 0), (6, q_i (s_si (S 151) k r h)), (0, q_r Γ 150), (1, q_i r), (2, q_i h), (3, q_i best), (4, q_i most), (5, q_i k)]) dX9_blamed_80 rfl (by decide) rfl ?_
                refine q_iload (pc' := 84) 0 dX9_blamed_82 rfl rfl ?_
                refine q_if_eq (tgt := 92) (pc' := 87) dX9_blamed_84 rfl rfl (by decide) (fun qc_84_2 => ?_) (fun qc_84_2 => absurd qc_84_2 (by decide))
                refine q_iloadn (pc' := 93) 5 dX9_blamed_92 rfl rfl ?_
                refine q_istoren (pc' := 94) (L' := [(3, q_i best), (7, q_i 0), (6, q_i (s_si (S 151) k r h)), (0, q_r Γ 150), (1, q_i r), (2, q_i h), (4, q_i most), (5, q_i k)]) dX9_blamed_93 rfl rfl (by decide) rfl ?_
                refine q_iload (pc' := 96) 1 dX9_blamed_94 rfl rfl ?_
                refine q_if_eq (tgt := 104) (pc' := 99) dX9_blamed_96 rfl rfl (by decide) (fun qc_96_2 => ?_) (fun qc_96_2 => absurd qc_96_2 (by decide))
                refine q_iload (pc' := 106) 6 dX9_blamed_104 rfl rfl ?_
                refine q_istore (pc' := 108) (L' := [(4, q_i most), (3, q_i best), (7, q_i 0), (6, q_i (s_si (S 151) k r h)), (0, q_r Γ 150), (1, q_i r), (2, q_i h), (5, q_i k)]) dX9_blamed_106 rfl (by decide) rfl ?_
                refine q_iinc (pc' := 111) 7 (L' := [(5, q_i (k + 1)), (4, q_i most), (3, q_i best), (7, q_i 0), (6, q_i (s_si (S 151) k r h)), (0, q_r Γ 150), (1, q_i r), (2, q_i h)]) dX9_blamed_108 rfl rfl (by decide) rfl ?_
                refine q_goto (pc' := 9) dX9_blamed_111 rfl ?_
                refine p_sub [5, 6, 7, 2, 1, 0] rfl ?_
                exact qih_9 _ (by omega) _ _ _ (by first | assumption | omega) (by first | assumption | omega) (by rw [s_bN_s (by omega), ← qa_9_2, ← qa_9_3, ← hu]; first | exact (q_if_t (by unfold s_more; omega)).symm | exact (q_if_f (by unfold s_more; omega)).symm) (by rw [s_bN_s (by omega), ← qa_9_2, ← qa_9_3, ← hu]; first | exact (q_if_t (by unfold s_more; omega)).symm | exact (q_if_f (by unfold s_more; omega)).symm) rfl
              · have f1 := s_far_b ok (a := k) (b := r) (by omega) (by omega) r0 r1
                have f2 := s_far_b ok (a := best) (b := r) (by omega) (by omega) r0 r1
                refine q_aloadn (pc' := 60) 1 dX9_blamed_59 rfl rfl ?_
                refine q_iload (pc' := 62) 6 dX9_blamed_60 rfl rfl ?_
                refine q_iloadn (pc' := 63) 2 dX9_blamed_62 rfl rfl ?_
                refine q_callVI (pc' := 66) dX9_blamed_63 rfl lX9_75 iX9_far kc150 rfl (c_X9_far (by first | assumption | omega) (by first | assumption | omega) (by first | assumption | omega) (by first | assumption | omega) (by first | assumption | omega)) rfl rfl (Nat.le_of_ble_eq_true rfl) (Nat.le_of_ble_eq_true rfl) (Nat.le_of_ble_eq_true rfl) ?_
                refine q_aloadn (pc' := 67) 1 dX9_blamed_66 rfl rfl ?_
                refine q_iloadn (pc' := 68) 4 dX9_blamed_67 rfl rfl ?_
                refine q_iloadn (pc' := 69) 2 dX9_blamed_68 rfl rfl ?_
                refine q_callVI (pc' := 72) dX9_blamed_69 rfl lX9_75 iX9_far kc150 rfl (c_X9_far (by first | assumption | omega) (by first | assumption | omega) (by first | assumption | omega) (by first | assumption | omega) (by first | assumption | omega)) rfl rfl (Nat.le_of_ble_eq_true rfl) (Nat.le_of_ble_eq_true rfl) (Nat.le_of_ble_eq_true rfl) ?_
                refine q_icmp_ge (tgt := 79) (pc' := 75) dX9_blamed_72 rfl rfl (by first | assumption | omega) (by first | assumption | omega) (fun qc_72 => ?_) (fun qc_72 => ?_)
                · refine q_iconst (pc' := 80) dX9_blamed_79 rfl ?_
                  refine q_istore (pc' := 82) (L' := [(7, q_i 0), (6, q_i (s_si (S 151) k r h)), (0, q_r Γ 150), (1, q_i r), (2, q_i h), (3, q_i best), (4, q_i most), (5, q_i k)]) dX9_blamed_80 rfl (by decide) rfl ?_
                  refine q_iload (pc' := 84) 0 dX9_blamed_82 rfl rfl ?_
                  refine q_if_eq (tgt := 92) (pc' := 87) dX9_blamed_84 rfl rfl (by decide) (fun qc_84_3 => ?_) (fun qc_84_3 => absurd qc_84_3 (by decide))
                  refine q_iloadn (pc' := 93) 5 dX9_blamed_92 rfl rfl ?_
                  refine q_istoren (pc' := 94) (L' := [(3, q_i best), (7, q_i 0), (6, q_i (s_si (S 151) k r h)), (0, q_r Γ 150), (1, q_i r), (2, q_i h), (4, q_i most), (5, q_i k)]) dX9_blamed_93 rfl rfl (by decide) rfl ?_
                  refine q_iload (pc' := 96) 1 dX9_blamed_94 rfl rfl ?_
                  refine q_if_eq (tgt := 104) (pc' := 99) dX9_blamed_96 rfl rfl (by decide) (fun qc_96_3 => ?_) (fun qc_96_3 => absurd qc_96_3 (by decide))
                  refine q_iload (pc' := 106) 6 dX9_blamed_104 rfl rfl ?_
                  refine q_istore (pc' := 108) (L' := [(4, q_i most), (3, q_i best), (7, q_i 0), (6, q_i (s_si (S 151) k r h)), (0, q_r Γ 150), (1, q_i r), (2, q_i h), (5, q_i k)]) dX9_blamed_106 rfl (by decide) rfl ?_
                  refine q_iinc (pc' := 111) 7 (L' := [(5, q_i (k + 1)), (4, q_i most), (3, q_i best), (7, q_i 0), (6, q_i (s_si (S 151) k r h)), (0, q_r Γ 150), (1, q_i r), (2, q_i h)]) dX9_blamed_108 rfl rfl (by decide) rfl ?_
                  refine q_goto (pc' := 9) dX9_blamed_111 rfl ?_
                  refine p_sub [5, 6, 7, 2, 1, 0] rfl ?_
                  exact qih_9 _ (by omega) _ _ _ (by first | assumption | omega) (by first | assumption | omega) (by rw [s_bN_s (by omega), ← qa_9_2, ← qa_9_3, ← hu]; first | exact (q_if_t (by unfold s_more; omega)).symm | exact (q_if_f (by unfold s_more; omega)).symm) (by rw [s_bN_s (by omega), ← qa_9_2, ← qa_9_3, ← hu]; first | exact (q_if_t (by unfold s_more; omega)).symm | exact (q_if_f (by unfold s_more; omega)).symm) rfl
                · refine q_iconst (pc' := 76) dX9_blamed_75 rfl ?_
                  refine q_goto (pc' := 80) dX9_blamed_76 rfl ?_
                  refine q_istore (pc' := 82) (L' := [(7, q_i 1), (6, q_i (s_si (S 151) k r h)), (0, q_r Γ 150), (1, q_i r), (2, q_i h), (3, q_i best), (4, q_i most), (5, q_i k)]) dX9_blamed_80 rfl (by decide) rfl ?_
                  refine q_iload (pc' := 84) 0 dX9_blamed_82 rfl rfl ?_
                  refine q_if_eq (tgt := 92) (pc' := 87) dX9_blamed_84 rfl rfl (by decide) (fun qc_84_4 => absurd qc_84_4 (by decide)) (fun qc_84_4 => ?_)
                  refine q_iload (pc' := 89) 7 dX9_blamed_87 rfl rfl ?_
                  refine q_goto (pc' := 93) dX9_blamed_89 rfl ?_
                  refine q_istoren (pc' := 94) (L' := [(3, q_i k), (7, q_i 1), (6, q_i (s_si (S 151) k r h)), (0, q_r Γ 150), (1, q_i r), (2, q_i h), (4, q_i most), (5, q_i k)]) dX9_blamed_93 rfl rfl (by decide) rfl ?_
                  refine q_iload (pc' := 96) 1 dX9_blamed_94 rfl rfl ?_
                  refine q_if_eq (tgt := 104) (pc' := 99) dX9_blamed_96 rfl rfl (by decide) (fun qc_96_4 => absurd qc_96_4 (by decide)) (fun qc_96_4 => ?_)
                  refine q_iload (pc' := 101) 2 dX9_blamed_99 rfl rfl ?_
                  refine q_goto (pc' := 106) dX9_blamed_101 rfl ?_
                  refine q_istore (pc' := 108) (L' := [(4, q_i (s_si (S 151) k r h)), (3, q_i k), (7, q_i 1), (6, q_i (s_si (S 151) k r h)), (0, q_r Γ 150), (1, q_i r), (2, q_i h), (5, q_i k)]) dX9_blamed_106 rfl (by decide) rfl ?_
                  refine q_iinc (pc' := 111) 7 (L' := [(5, q_i (k + 1)), (4, q_i (s_si (S 151) k r h)), (3, q_i k), (7, q_i 1), (6, q_i (s_si (S 151) k r h)), (0, q_r Γ 150), (1, q_i r), (2, q_i h)]) dX9_blamed_108 rfl rfl (by decide) rfl ?_
                  refine q_goto (pc' := 9) dX9_blamed_111 rfl ?_
                  refine p_sub [5, 6, 7, 2, 1, 0] rfl ?_
                  exact qih_9 _ (by omega) _ _ _ (by first | assumption | omega) (by first | assumption | omega) (by rw [s_bN_s (by omega), ← qa_9_2, ← qa_9_3, ← hu]; first | exact (q_if_t (by unfold s_more; omega)).symm | exact (q_if_f (by unfold s_more; omega)).symm) (by rw [s_bN_s (by omega), ← qa_9_2, ← qa_9_3, ← hu]; first | exact (q_if_t (by unfold s_more; omega)).symm | exact (q_if_f (by unfold s_more; omega)).symm) rfl
        · refine q_iconst (pc' := 27) dX9_blamed_26 rfl ?_
          refine q_goto (pc' := 38) dX9_blamed_27 rfl ?_
          have hu : 0 = s_up (S 151) r h k := by first | exact (if_neg qc_23).symm | exact (if_pos qc_23).symm
          refine q_istore (pc' := 40) (L' := [(6, q_i 0), (0, q_r Γ 150), (1, q_i r), (2, q_i h), (3, q_i best), (4, q_i most), (5, q_i k)]) dX9_blamed_38 rfl (by decide) rfl ?_
          refine q_iload (pc' := 42) 0 dX9_blamed_40 rfl rfl ?_
          refine q_iload (pc' := 44) 5 dX9_blamed_42 rfl rfl ?_
          refine q_icmp_gt (tgt := 75) (pc' := 47) dX9_blamed_44 rfl rfl (by decide) (by first | assumption | omega) (fun qc_44_1 => ?_) (fun qc_44_1 => ?_)
          · refine q_iconst (pc' := 76) dX9_blamed_75 rfl ?_
            refine q_goto (pc' := 80) dX9_blamed_76 rfl ?_
            refine q_istore (pc' := 82) (L' := [(7, q_i 1), (6, q_i 0), (0, q_r Γ 150), (1, q_i r), (2, q_i h), (3, q_i best), (4, q_i most), (5, q_i k)]) dX9_blamed_80 rfl (by decide) rfl ?_
            refine q_iload (pc' := 84) 0 dX9_blamed_82 rfl rfl ?_
            refine q_if_eq (tgt := 92) (pc' := 87) dX9_blamed_84 rfl rfl (by decide) (fun qc_84_5 => absurd qc_84_5 (by decide)) (fun qc_84_5 => ?_)
            refine q_iload (pc' := 89) 7 dX9_blamed_87 rfl rfl ?_
            refine q_goto (pc' := 93) dX9_blamed_89 rfl ?_
            refine q_istoren (pc' := 94) (L' := [(3, q_i k), (7, q_i 1), (6, q_i 0), (0, q_r Γ 150), (1, q_i r), (2, q_i h), (4, q_i most), (5, q_i k)]) dX9_blamed_93 rfl rfl (by decide) rfl ?_
            refine q_iload (pc' := 96) 1 dX9_blamed_94 rfl rfl ?_
            refine q_if_eq (tgt := 104) (pc' := 99) dX9_blamed_96 rfl rfl (by decide) (fun qc_96_5 => absurd qc_96_5 (by decide)) (fun qc_96_5 => ?_)
            refine q_iload (pc' := 101) 2 dX9_blamed_99 rfl rfl ?_
            refine q_goto (pc' := 106) dX9_blamed_101 rfl ?_
            refine q_istore (pc' := 108) (L' := [(4, q_i 0), (3, q_i k), (7, q_i 1), (6, q_i 0), (0, q_r Γ 150), (1, q_i r), (2, q_i h), (5, q_i k)]) dX9_blamed_106 rfl (by decide) rfl ?_
            refine q_iinc (pc' := 111) 7 (L' := [(5, q_i (k + 1)), (4, q_i 0), (3, q_i k), (7, q_i 1), (6, q_i 0), (0, q_r Γ 150), (1, q_i r), (2, q_i h)]) dX9_blamed_108 rfl rfl (by decide) rfl ?_
            refine q_goto (pc' := 9) dX9_blamed_111 rfl ?_
            refine p_sub [5, 6, 7, 2, 1, 0] rfl ?_
            exact qih_9 _ (by omega) _ _ _ (by first | assumption | omega) (by first | assumption | omega) (by rw [s_bN_s (by omega), ← qa_9_2, ← qa_9_3, ← hu]; first | exact (q_if_t (by unfold s_more; omega)).symm | exact (q_if_f (by unfold s_more; omega)).symm) (by rw [s_bN_s (by omega), ← qa_9_2, ← qa_9_3, ← hu]; first | exact (q_if_t (by unfold s_more; omega)).symm | exact (q_if_f (by unfold s_more; omega)).symm) rfl
          · refine q_iload (pc' := 49) 0 dX9_blamed_47 rfl rfl ?_
            refine q_if_le (tgt := 79) (pc' := 52) dX9_blamed_49 rfl rfl (by decide) (fun qc_49_1 => ?_) (fun qc_49_1 => absurd qc_49_1 (by decide))
            refine q_iconst (pc' := 80) dX9_blamed_79 rfl ?_
            refine q_istore (pc' := 82) (L' := [(7, q_i 0), (6, q_i 0), (0, q_r Γ 150), (1, q_i r), (2, q_i h), (3, q_i best), (4, q_i most), (5, q_i k)]) dX9_blamed_80 rfl (by decide) rfl ?_
            refine q_iload (pc' := 84) 0 dX9_blamed_82 rfl rfl ?_
            refine q_if_eq (tgt := 92) (pc' := 87) dX9_blamed_84 rfl rfl (by decide) (fun qc_84_6 => ?_) (fun qc_84_6 => absurd qc_84_6 (by decide))
            refine q_iloadn (pc' := 93) 5 dX9_blamed_92 rfl rfl ?_
            refine q_istoren (pc' := 94) (L' := [(3, q_i best), (7, q_i 0), (6, q_i 0), (0, q_r Γ 150), (1, q_i r), (2, q_i h), (4, q_i most), (5, q_i k)]) dX9_blamed_93 rfl rfl (by decide) rfl ?_
            refine q_iload (pc' := 96) 1 dX9_blamed_94 rfl rfl ?_
            refine q_if_eq (tgt := 104) (pc' := 99) dX9_blamed_96 rfl rfl (by decide) (fun qc_96_6 => ?_) (fun qc_96_6 => absurd qc_96_6 (by decide))
            refine q_iload (pc' := 106) 6 dX9_blamed_104 rfl rfl ?_
            refine q_istore (pc' := 108) (L' := [(4, q_i most), (3, q_i best), (7, q_i 0), (6, q_i 0), (0, q_r Γ 150), (1, q_i r), (2, q_i h), (5, q_i k)]) dX9_blamed_106 rfl (by decide) rfl ?_
            refine q_iinc (pc' := 111) 7 (L' := [(5, q_i (k + 1)), (4, q_i most), (3, q_i best), (7, q_i 0), (6, q_i 0), (0, q_r Γ 150), (1, q_i r), (2, q_i h)]) dX9_blamed_108 rfl rfl (by decide) rfl ?_
            refine q_goto (pc' := 9) dX9_blamed_111 rfl ?_
            refine p_sub [5, 6, 7, 2, 1, 0] rfl ?_
            exact qih_9 _ (by omega) _ _ _ (by first | assumption | omega) (by first | assumption | omega) (by rw [s_bN_s (by omega), ← qa_9_2, ← qa_9_3, ← hu]; first | exact (q_if_t (by unfold s_more; omega)).symm | exact (q_if_f (by unfold s_more; omega)).symm) (by rw [s_bN_s (by omega), ← qa_9_2, ← qa_9_3, ← hu]; first | exact (q_if_t (by unfold s_more; omega)).symm | exact (q_if_f (by unfold s_more; omega)).symm) rfl
  refine p_sub [3, 4, 5, 2, 1, 0] rfl ?_
  exact qlp_9 _ _ _ _ (by first | assumption | omega) (by first | assumption | omega) (by rfl) (by rfl) rfl
set_option maxRecDepth 20000 in
set_option maxHeartbeats 4000000 in
theorem c_X9_shadeOf {Γ : q_G} {S : q_S} {r h : Int} (ok : s_ok (S 151)) (r0 : 0 ≤ r) (r1 : r < 6) (h0 : 0 ≤ h) (h1 : h < 10) : q_Sp Γ mX9_shadeOf 6 0 0 [q_r Γ 150, q_i r, q_i h] (KC, S) (q_ev (some (q_i (s_shd (S 151) r h))) (KC, S)) := by
  show q_Go Γ mX9_shadeOf 6 0 0 0 [(0, q_r Γ 150), (1, q_i r), (2, q_i h)] [] (KC, S) (q_ev (some (q_i (s_shd (S 151) r h))) (KC, S))
  have rw0 := s_rows_b ok
  have bb := s_bl_b ok r0 r1 h0 h1
  have hb := s_he_b ok h r0 r1
  refine q_aloadn (pc' := 1) 0 dX9_shadeOf_0 rfl rfl ?_
  refine q_iloadn (pc' := 2) 1 dX9_shadeOf_1 rfl rfl ?_
  refine q_iloadn (pc' := 3) 2 dX9_shadeOf_2 rfl rfl ?_
  refine q_callVI (pc' := 6) dX9_shadeOf_3 rfl lX9_78 iX9_blamed kc150 rfl (c_X9_blamed (by first | assumption | omega) (by first | assumption | omega) (by first | assumption | omega) (by first | assumption | omega) (by first | assumption | omega)) rfl rfl (Nat.le_of_ble_eq_true rfl) (Nat.le_of_ble_eq_true rfl) (Nat.le_of_ble_eq_true rfl) ?_
  refine q_istoren (pc' := 7) (L' := [(3, q_i (s_bl (S 151) r h)), (0, q_r Γ 150), (1, q_i r), (2, q_i h)]) dX9_shadeOf_6 rfl rfl (by decide) rfl ?_
  refine q_iloadn (pc' := 8) 0 dX9_shadeOf_7 rfl rfl ?_
  refine q_bipush (pc' := 10) dX9_shadeOf_8 rfl rfl ?_
  refine q_icmp_ne (tgt := 17) (pc' := 13) dX9_shadeOf_10 rfl rfl (by first | assumption | omega) (by decide) (fun qc_10 => ?_) (fun qc_10 => ?_)
  · have sb := s_si_b ok (a := s_bl (S 151) r h) (by omega) (by omega) r0 r1 h0 h1
    refine q_aloadn (pc' := 18) 1 dX9_shadeOf_17 rfl rfl ?_
    refine q_iloadn (pc' := 19) 0 dX9_shadeOf_18 rfl rfl ?_
    refine q_iloadn (pc' := 20) 2 dX9_shadeOf_19 rfl rfl ?_
    refine q_iloadn (pc' := 21) 3 dX9_shadeOf_20 rfl rfl ?_
    refine q_callVI (pc' := 24) dX9_shadeOf_21 rfl lX9_72 iX9_shadowIn kc150 rfl (c_X9_shadowIn (by first | assumption | omega) (by first | assumption | omega) (by first | assumption | omega) (by first | assumption | omega) (by first | assumption | omega) (by first | assumption | omega) (by first | assumption | omega)) rfl rfl (Nat.le_of_ble_eq_true rfl) (Nat.le_of_ble_eq_true rfl) (Nat.le_of_ble_eq_true rfl) ?_
    refine q_istore (pc' := 26) (L' := [(4, q_i (s_si (S 151) (s_bl (S 151) r h) r h)), (3, q_i (s_bl (S 151) r h)), (0, q_r Γ 150), (1, q_i r), (2, q_i h)]) dX9_shadeOf_24 rfl (by decide) rfl ?_
    refine q_aloadn (pc' := 27) 2 dX9_shadeOf_26 rfl rfl ?_
    refine q_iloadn (pc' := 28) 3 dX9_shadeOf_27 rfl rfl ?_
    refine q_iloadn (pc' := 29) 4 dX9_shadeOf_28 rfl rfl ?_
    refine q_callVI (pc' := 32) dX9_shadeOf_29 rfl lX9_81 iX9_heightIn kc150 rfl (c_X9_heightIn (by first | assumption | omega) (by first | assumption | omega) (by first | assumption | omega) (by first | assumption | omega) (by first | assumption | omega)) rfl rfl (Nat.le_of_ble_eq_true rfl) (Nat.le_of_ble_eq_true rfl) (Nat.le_of_ble_eq_true rfl) ?_
    refine q_istore (pc' := 34) (L' := [(5, q_i (s_he (S 151) r h)), (4, q_i (s_si (S 151) (s_bl (S 151) r h) r h)), (3, q_i (s_bl (S 151) r h)), (0, q_r Γ 150), (1, q_i r), (2, q_i h)]) dX9_shadeOf_32 rfl (by decide) rfl ?_
    refine q_iload (pc' := 36) 1 dX9_shadeOf_34 rfl rfl ?_
    refine q_iload (pc' := 38) 0 dX9_shadeOf_36 rfl rfl ?_
    refine q_icmp_ge (tgt := 46) (pc' := 41) dX9_shadeOf_38 rfl rfl (by first | assumption | omega) (by first | assumption | omega) (fun qc_38 => ?_) (fun qc_38 => ?_)
    · refine q_iload (pc' := 48) 0 dX9_shadeOf_46 rfl rfl ?_
      refine p_iret dX9_shadeOf_48 rfl ?_ ?_
      · unfold s_shd; omega
      · rfl
    · refine q_iload (pc' := 43) 1 dX9_shadeOf_41 rfl rfl ?_
      refine q_goto (pc' := 48) dX9_shadeOf_43 rfl ?_
      refine p_iret dX9_shadeOf_48 rfl ?_ ?_
      · unfold s_shd; omega
      · rfl
  · refine q_iconst (pc' := 14) dX9_shadeOf_13 rfl ?_
    refine q_goto (pc' := 24) dX9_shadeOf_14 rfl ?_
    refine q_istore (pc' := 26) (L' := [(4, q_i 0), (3, q_i (s_bl (S 151) r h)), (0, q_r Γ 150), (1, q_i r), (2, q_i h)]) dX9_shadeOf_24 rfl (by decide) rfl ?_
    refine q_aloadn (pc' := 27) 2 dX9_shadeOf_26 rfl rfl ?_
    refine q_iloadn (pc' := 28) 3 dX9_shadeOf_27 rfl rfl ?_
    refine q_iloadn (pc' := 29) 4 dX9_shadeOf_28 rfl rfl ?_
    refine q_callVI (pc' := 32) dX9_shadeOf_29 rfl lX9_81 iX9_heightIn kc150 rfl (c_X9_heightIn (by first | assumption | omega) (by first | assumption | omega) (by first | assumption | omega) (by first | assumption | omega) (by first | assumption | omega)) rfl rfl (Nat.le_of_ble_eq_true rfl) (Nat.le_of_ble_eq_true rfl) (Nat.le_of_ble_eq_true rfl) ?_
    refine q_istore (pc' := 34) (L' := [(5, q_i (s_he (S 151) r h)), (4, q_i 0), (3, q_i (s_bl (S 151) r h)), (0, q_r Γ 150), (1, q_i r), (2, q_i h)]) dX9_shadeOf_32 rfl (by decide) rfl ?_
    refine q_iload (pc' := 36) 1 dX9_shadeOf_34 rfl rfl ?_
    refine q_iload (pc' := 38) 0 dX9_shadeOf_36 rfl rfl ?_
    refine q_icmp_ge (tgt := 46) (pc' := 41) dX9_shadeOf_38 rfl rfl (by decide) (by first | assumption | omega) (fun qc_38_1 => ?_) (fun qc_38_1 => ?_)
    · refine q_iload (pc' := 48) 0 dX9_shadeOf_46 rfl rfl ?_
      refine p_iret dX9_shadeOf_48 rfl ?_ ?_
      · unfold s_shd; omega
      · rfl
    · refine q_iload (pc' := 43) 1 dX9_shadeOf_41 rfl rfl ?_
      refine q_goto (pc' := 48) dX9_shadeOf_43 rfl ?_
      refine p_iret dX9_shadeOf_48 rfl ?_ ?_
      · unfold s_shd; omega
      · rfl
set_option maxRecDepth 20000 in
set_option maxHeartbeats 4000000 in
theorem c_X9_yieldIn {Γ : q_G} {S : q_S} {r h : Int} (ok : s_ok (S 151)) (r0 : 0 ≤ r) (r1 : r < 6) (h0 : 0 ≤ h) (h1 : h < 10) : q_Sp Γ mX9_yieldIn 7 0 0 [q_r Γ 150, q_i r, q_i h] (KC, S) (q_ev (some (q_i (s_y (S 151) r h))) (KC, S)) := by
  show q_Go Γ mX9_yieldIn 7 0 0 0 [(0, q_r Γ 150), (1, q_i r), (2, q_i h)] [] (KC, S) (q_ev (some (q_i (s_y (S 151) r h))) (KC, S))
  refine q_aloadn (pc' := 1) 0 dX9_yieldIn_0 rfl rfl ?_
  refine q_iloadn (pc' := 2) 1 dX9_yieldIn_1 rfl rfl ?_
  refine q_iloadn (pc' := 3) 2 dX9_yieldIn_2 rfl rfl ?_
  refine q_callVI (pc' := 6) dX9_yieldIn_3 rfl lX9_81 iX9_heightIn kc150 rfl (c_X9_heightIn (by first | assumption | omega) (by first | assumption | omega) (by first | assumption | omega) (by first | assumption | omega) (by first | assumption | omega)) rfl rfl (Nat.le_of_ble_eq_true rfl) (Nat.le_of_ble_eq_true rfl) (Nat.le_of_ble_eq_true rfl) ?_
  refine q_aloadn (pc' := 7) 0 dX9_yieldIn_6 rfl rfl ?_
  refine q_iloadn (pc' := 8) 1 dX9_yieldIn_7 rfl rfl ?_
  refine q_iloadn (pc' := 9) 2 dX9_yieldIn_8 rfl rfl ?_
  refine q_callVI (pc' := 12) dX9_yieldIn_9 rfl lX9_84 iX9_shadeOf kc150 rfl (c_X9_shadeOf (by first | assumption | omega) (by first | assumption | omega) (by first | assumption | omega) (by first | assumption | omega) (by first | assumption | omega)) rfl rfl (Nat.le_of_ble_eq_true rfl) (Nat.le_of_ble_eq_true rfl) (Nat.le_of_ble_eq_true rfl) ?_
  refine q_isub (pc' := 13) dX9_yieldIn_12 rfl ?_
  refine q_iloadn (pc' := 14) 2 dX9_yieldIn_13 rfl rfl ?_
  refine q_callSI (pc' := 17) dX9_yieldIn_14 rfl lX9_87 iX9_sunOf (c_X9_sunOf (by first | assumption | omega) (by first | assumption | omega)) rfl rfl (Nat.le_of_ble_eq_true rfl) (Nat.le_of_ble_eq_true rfl) (Nat.le_of_ble_eq_true rfl) ?_
  refine q_imul (pc' := 18) dX9_yieldIn_17 rfl ?_
  refine q_aloadn (pc' := 19) 0 dX9_yieldIn_18 rfl rfl ?_
  refine q_iloadn (pc' := 20) 1 dX9_yieldIn_19 rfl rfl ?_
  refine q_iconst (pc' := 21) dX9_yieldIn_20 rfl ?_
  refine q_callVI (pc' := 24) dX9_yieldIn_21 rfl lX9_46 iX9_part kc150 rfl (c_X9_part (by first | assumption | omega) (by first | assumption | omega)) rfl rfl (Nat.le_of_ble_eq_true rfl) (Nat.le_of_ble_eq_true rfl) (Nat.le_of_ble_eq_true rfl) ?_
  refine q_iadd (pc' := 25) dX9_yieldIn_24 rfl ?_
  refine p_iret dX9_yieldIn_25 rfl ?_ ?_
  · rfl
  · rfl
set_option maxRecDepth 20000 in
set_option maxHeartbeats 4000000 in
theorem c_X9_yieldOf {Γ : q_G} {S : q_S} {r : Int} (ok : s_ok (S 151)) (r0 : 0 ≤ r) (r1 : r < 6) : q_Sp Γ mX9_yieldOf 8 0 0 [q_r Γ 150, q_i r] (KC, S) (q_ev (some (q_i (s_yo (S 151) r))) (KC, S)) := by
  show q_Go Γ mX9_yieldOf 8 0 0 0 [(0, q_r Γ 150), (1, q_i r)] [] (KC, S) (q_ev (some (q_i (s_yo (S 151) r))) (KC, S))
  refine q_iconst (pc' := 1) dX9_yieldOf_0 rfl ?_
  refine q_istoren (pc' := 2) (L' := [(2, q_i 0), (0, q_r Γ 150), (1, q_i r)]) dX9_yieldOf_1 rfl rfl (by decide) rfl ?_
  refine q_iconst (pc' := 3) dX9_yieldOf_2 rfl ?_
  refine q_istoren (pc' := 4) (L' := [(3, q_i 0), (2, q_i 0), (0, q_r Γ 150), (1, q_i r)]) dX9_yieldOf_3 rfl rfl (by decide) rfl ?_
  have qlp_4 : ∀ (qn_4 : Nat) (z k : Int), (0 ≤ k) → (k ≤ 10) → (z = q_sum (s_y (S 151) r) k.toNat) → ((10 - k).toNat) = qn_4 → q_Go Γ mX9_yieldOf 8 0 0 4 [(0, q_r Γ 150), (1, q_i r), (2, q_i z), (3, q_i k)] [] (KC, S) (q_ev (some (q_i (s_yo (S 151) r))) (KC, S)) := by
    intro qn_4
    induction qn_4 using Nat.strongRecOn with
    | ind qn_4 qih_4 =>
      intro z k qa_4_0 qa_4_1 qa_4_2 qhn_4
      subst qhn_4
      refine q_iloadn (pc' := 5) 3 dX9_yieldOf_4 rfl rfl ?_
      refine q_bipush (pc' := 7) dX9_yieldOf_5 rfl rfl ?_
      refine q_icmp_ge (tgt := 25) (pc' := 10) dX9_yieldOf_7 rfl rfl (by first | assumption | omega) (by decide) (fun qc_7 => ?_) (fun qc_7 => ?_)
      · refine q_iloadn (pc' := 26) 2 dX9_yieldOf_25 rfl rfl ?_
        refine p_iret dX9_yieldOf_26 rfl ?_ ?_
        · rw [qa_4_2, show k = 10 by omega]; rfl
        · rfl
      · refine q_iloadn (pc' := 11) 2 dX9_yieldOf_10 rfl rfl ?_
        refine q_aloadn (pc' := 12) 0 dX9_yieldOf_11 rfl rfl ?_
        refine q_iloadn (pc' := 13) 1 dX9_yieldOf_12 rfl rfl ?_
        refine q_iloadn (pc' := 14) 3 dX9_yieldOf_13 rfl rfl ?_
        refine q_callVI (pc' := 17) dX9_yieldOf_14 rfl lX9_90 iX9_yieldIn kc150 rfl (c_X9_yieldIn (by first | assumption | omega) (by first | assumption | omega) (by first | assumption | omega) (by first | assumption | omega) (by first | assumption | omega)) rfl rfl (Nat.le_of_ble_eq_true rfl) (Nat.le_of_ble_eq_true rfl) (Nat.le_of_ble_eq_true rfl) ?_
        refine q_iadd (pc' := 18) dX9_yieldOf_17 rfl ?_
        refine q_istoren (pc' := 19) (L' := [(2, q_i (z + (s_y (S 151) r k))), (0, q_r Γ 150), (1, q_i r), (3, q_i k)]) dX9_yieldOf_18 rfl rfl (by decide) rfl ?_
        refine q_iinc (pc' := 22) 3 (L' := [(3, q_i (k + 1)), (2, q_i (z + (s_y (S 151) r k))), (0, q_r Γ 150), (1, q_i r)]) dX9_yieldOf_19 rfl rfl (by decide) rfl ?_
        refine q_goto (pc' := 4) dX9_yieldOf_22 rfl ?_
        refine p_sub [2, 3, 1, 0] rfl ?_
        exact qih_4 _ (by omega) _ _ (by first | assumption | omega) (by first | assumption | omega) (by rw [q_sum_s (by omega), ← qa_4_2]) rfl
  refine p_sub [2, 3, 1, 0] rfl ?_
  exact qlp_4 _ _ _ (by first | assumption | omega) (by first | assumption | omega) (by rfl) rfl
set_option maxRecDepth 20000 in
set_option maxHeartbeats 4000000 in
theorem c_X9_allYields {Γ : q_G} {S : q_S} (ok : s_ok (S 151)) : q_Sp Γ mX9_allYields 9 0 0 [q_r Γ 150] (KC, S) (q_ev (some (q_i (s_all (S 151)))) (KC, S)) := by
  show q_Go Γ mX9_allYields 9 0 0 0 [(0, q_r Γ 150)] [] (KC, S) (q_ev (some (q_i (s_all (S 151)))) (KC, S))
  have rw0 := s_rows_b ok
  refine q_iconst (pc' := 1) dX9_allYields_0 rfl ?_
  refine q_istoren (pc' := 2) (L' := [(1, q_i 0), (0, q_r Γ 150)]) dX9_allYields_1 rfl rfl (by decide) rfl ?_
  refine q_iconst (pc' := 3) dX9_allYields_2 rfl ?_
  refine q_istoren (pc' := 4) (L' := [(2, q_i 0), (1, q_i 0), (0, q_r Γ 150)]) dX9_allYields_3 rfl rfl (by decide) rfl ?_
  have qlp_4 : ∀ (qn_4 : Nat) (z k : Int), (0 ≤ k) → (k ≤ S 151 0) → (z = q_sum (s_yo (S 151)) k.toNat) → ((6 - k).toNat) = qn_4 → q_Go Γ mX9_allYields 9 0 0 4 [(0, q_r Γ 150), (1, q_i z), (2, q_i k)] [] (KC, S) (q_ev (some (q_i (s_all (S 151)))) (KC, S)) := by
    intro qn_4
    induction qn_4 using Nat.strongRecOn with
    | ind qn_4 qih_4 =>
      intro z k qa_4_0 qa_4_1 qa_4_2 qhn_4
      subst qhn_4
      refine q_iloadn (pc' := 5) 2 dX9_allYields_4 rfl rfl ?_
      refine q_aloadn (pc' := 6) 0 dX9_allYields_5 rfl rfl ?_
      refine p_getR (pc' := 9) (f := 151) dX9_allYields_6 rfl fX9_7 kc150 rfl ?_
      refine q_iconst (pc' := 10) dX9_allYields_9 rfl ?_
      refine p_iald (pc' := 11) dX9_allYields_10 rfl kc151 (by first | assumption | omega) (by first | assumption | omega) (by decide) (fun qy_10 eqy_10 rqy_10 => ?_)
      refine q_icmp_ge (tgt := 28) (pc' := 14) dX9_allYields_11 rfl rfl (by first | assumption | omega) (by first | assumption | omega) (fun qc_11 => ?_) (fun qc_11 => ?_)
      · refine q_iloadn (pc' := 29) 1 dX9_allYields_28 rfl rfl ?_
        refine p_iret dX9_allYields_29 rfl ?_ ?_
        · rw [qa_4_2, show k = S 151 0 by omega]; rfl
        · rfl
      · refine q_iloadn (pc' := 15) 1 dX9_allYields_14 rfl rfl ?_
        refine q_aloadn (pc' := 16) 0 dX9_allYields_15 rfl rfl ?_
        refine q_iloadn (pc' := 17) 2 dX9_allYields_16 rfl rfl ?_
        refine q_callVI (pc' := 20) dX9_allYields_17 rfl lX9_93 iX9_yieldOf kc150 rfl (c_X9_yieldOf (by first | assumption | omega) (by first | assumption | omega) (by first | assumption | omega)) rfl rfl (Nat.le_of_ble_eq_true rfl) (Nat.le_of_ble_eq_true rfl) (Nat.le_of_ble_eq_true rfl) ?_
        refine q_iadd (pc' := 21) dX9_allYields_20 rfl ?_
        refine q_istoren (pc' := 22) (L' := [(1, q_i (z + (s_yo (S 151) k))), (0, q_r Γ 150), (2, q_i k)]) dX9_allYields_21 rfl rfl (by decide) rfl ?_
        refine q_iinc (pc' := 25) 2 (L' := [(2, q_i (k + 1)), (1, q_i (z + (s_yo (S 151) k))), (0, q_r Γ 150)]) dX9_allYields_22 rfl rfl (by decide) rfl ?_
        refine q_goto (pc' := 4) dX9_allYields_25 rfl ?_
        refine p_sub [2, 1, 0] rfl ?_
        exact qih_4 _ (by omega) _ _ (by first | assumption | omega) (by first | assumption | omega) (by rw [q_sum_s (by omega), ← qa_4_2]) rfl
  refine p_sub [2, 1, 0] rfl ?_
  exact qlp_4 _ _ _ (by first | assumption | omega) (by first | assumption | omega) (by rfl) rfl
set_option maxRecDepth 20000 in
set_option maxHeartbeats 4000000 in
theorem c_X9_isPlaceTaken {Γ : q_G} {S : q_S} {p : Int} (ok : s_ok (S 151)) (hp : q_rg p) : q_Sp Γ mX9_isPlaceTaken 1 0 0 [q_r Γ 150, q_i p] (KC, S) (q_ev (some (q_i (q_B (s_taken (S 151) p)))) (KC, S)) := by
  show q_Go Γ mX9_isPlaceTaken 1 0 0 0 [(0, q_r Γ 150), (1, q_i p)] [] (KC, S) (q_ev (some (q_i (q_B (s_taken (S 151) p)))) (KC, S))
  have rw0 := s_rows_b ok
  refine q_iconst (pc' := 1) dX9_isPlaceTaken_0 rfl ?_
  refine q_istoren (pc' := 2) (L' := [(2, q_i 0), (0, q_r Γ 150), (1, q_i p)]) dX9_isPlaceTaken_1 rfl rfl (by decide) rfl ?_
  refine q_iconst (pc' := 3) dX9_isPlaceTaken_2 rfl ?_
  refine q_istoren (pc' := 4) (L' := [(3, q_i 0), (2, q_i 0), (0, q_r Γ 150), (1, q_i p)]) dX9_isPlaceTaken_3 rfl rfl (by decide) rfl ?_
  have qlp_4 : ∀ (qn_4 : Nat) (z k : Int), (0 ≤ k) → (k ≤ S 151 0) → (z = q_B (s_tkN (S 151) p k)) → ((6 - k).toNat) = qn_4 → q_Go Γ mX9_isPlaceTaken 1 0 0 4 [(0, q_r Γ 150), (1, q_i p), (2, q_i z), (3, q_i k)] [] (KC, S) (q_ev (some (q_i (q_B (s_taken (S 151) p)))) (KC, S)) := by
    intro qn_4
    induction qn_4 using Nat.strongRecOn with
    | ind qn_4 qih_4 =>
      intro z k qa_4_0 qa_4_1 qa_4_2 qhn_4
      subst qhn_4
      have zr : (s_tkN (S 151) p k ∧ z = 1) ∨ (¬ s_tkN (S 151) p k ∧ z = 0) := by rw [qa_4_2]; exact q_B_or _
      refine q_iloadn (pc' := 5) 3 dX9_isPlaceTaken_4 rfl rfl ?_
      refine q_aloadn (pc' := 6) 0 dX9_isPlaceTaken_5 rfl rfl ?_
      refine p_getR (pc' := 9) (f := 151) dX9_isPlaceTaken_6 rfl fX9_7 kc150 rfl ?_
      refine q_iconst (pc' := 10) dX9_isPlaceTaken_9 rfl ?_
      refine p_iald (pc' := 11) dX9_isPlaceTaken_10 rfl kc151 (by first | assumption | omega) (by first | assumption | omega) (by decide) (fun qy_10 eqy_10 rqy_10 => ?_)
      refine q_icmp_ge (tgt := 40) (pc' := 14) dX9_isPlaceTaken_11 rfl rfl (by first | assumption | omega) (by first | assumption | omega) (fun qc_11 => ?_) (fun qc_11 => ?_)
      · refine q_iloadn (pc' := 41) 2 dX9_isPlaceTaken_40 rfl rfl ?_
        refine p_zret dX9_isPlaceTaken_41 rfl ?_ ?_
        · rw [qa_4_2]; exact q_B_congr (by rw [show k = S 151 0 by omega]; rfl)
        · rfl
      · refine q_iloadn (pc' := 15) 2 dX9_isPlaceTaken_14 rfl rfl ?_
        refine q_if_ne (tgt := 28) (pc' := 18) dX9_isPlaceTaken_15 rfl rfl (by first | assumption | omega) (fun qc_15 => ?_) (fun qc_15 => ?_)
        · refine q_iconst (pc' := 29) dX9_isPlaceTaken_28 rfl ?_
          refine q_goto (pc' := 33) dX9_isPlaceTaken_29 rfl ?_
          refine q_istoren (pc' := 34) (L' := [(2, q_i 1), (0, q_r Γ 150), (1, q_i p), (3, q_i k)]) dX9_isPlaceTaken_33 rfl rfl (by decide) rfl ?_
          refine q_iinc (pc' := 37) 3 (L' := [(3, q_i (k + 1)), (2, q_i 1), (0, q_r Γ 150), (1, q_i p)]) dX9_isPlaceTaken_34 rfl rfl (by decide) rfl ?_
          refine q_goto (pc' := 4) dX9_isPlaceTaken_37 rfl ?_
          refine p_sub [2, 3, 1, 0] rfl ?_
          exact qih_4 _ (by omega) _ _ (by first | assumption | omega) (by first | assumption | omega) (by first | exact q_B_1 ((s_tkN_s (by omega)).mpr (Or.inr (by assumption))) | exact q_B_1 ((s_tkN_s (by omega)).mpr (Or.inl (by rcases zr with q | q; exact q.1; omega))) | exact q_B_0 (fun q => by rcases (s_tkN_s (by omega)).mp q with q1 | q1; (rcases zr with q2 | q2; omega; exact q2.1 q1); omega)) rfl
        · have pk := s_pt_b ok (r := k) (by omega) (by omega)
          refine q_aloadn (pc' := 19) 0 dX9_isPlaceTaken_18 rfl rfl ?_
          refine q_iloadn (pc' := 20) 3 dX9_isPlaceTaken_19 rfl rfl ?_
          refine q_iconst (pc' := 21) dX9_isPlaceTaken_20 rfl ?_
          refine q_callVI (pc' := 24) dX9_isPlaceTaken_21 rfl lX9_46 iX9_part kc150 rfl (c_X9_part (by first | assumption | omega) (by first | assumption | omega)) rfl rfl (Nat.le_of_ble_eq_true rfl) (Nat.le_of_ble_eq_true rfl) (Nat.le_of_ble_eq_true rfl) ?_
          refine q_iloadn (pc' := 25) 1 dX9_isPlaceTaken_24 rfl rfl ?_
          refine q_icmp_ne (tgt := 32) (pc' := 28) dX9_isPlaceTaken_25 rfl rfl (by first | assumption | omega) (by first | assumption | omega) (fun qc_25 => ?_) (fun qc_25 => ?_)
          · refine q_iconst (pc' := 33) dX9_isPlaceTaken_32 rfl ?_
            refine q_istoren (pc' := 34) (L' := [(2, q_i 0), (0, q_r Γ 150), (1, q_i p), (3, q_i k)]) dX9_isPlaceTaken_33 rfl rfl (by decide) rfl ?_
            refine q_iinc (pc' := 37) 3 (L' := [(3, q_i (k + 1)), (2, q_i 0), (0, q_r Γ 150), (1, q_i p)]) dX9_isPlaceTaken_34 rfl rfl (by decide) rfl ?_
            refine q_goto (pc' := 4) dX9_isPlaceTaken_37 rfl ?_
            refine p_sub [2, 3, 1, 0] rfl ?_
            exact qih_4 _ (by omega) _ _ (by first | assumption | omega) (by first | assumption | omega) (by first | exact q_B_1 ((s_tkN_s (by omega)).mpr (Or.inr (by assumption))) | exact q_B_1 ((s_tkN_s (by omega)).mpr (Or.inl (by rcases zr with q | q; exact q.1; omega))) | exact q_B_0 (fun q => by rcases (s_tkN_s (by omega)).mp q with q1 | q1; (rcases zr with q2 | q2; omega; exact q2.1 q1); omega)) rfl
          · refine q_iconst (pc' := 29) dX9_isPlaceTaken_28 rfl ?_
            refine q_goto (pc' := 33) dX9_isPlaceTaken_29 rfl ?_
            refine q_istoren (pc' := 34) (L' := [(2, q_i 1), (0, q_r Γ 150), (1, q_i p), (3, q_i k)]) dX9_isPlaceTaken_33 rfl rfl (by decide) rfl ?_
            refine q_iinc (pc' := 37) 3 (L' := [(3, q_i (k + 1)), (2, q_i 1), (0, q_r Γ 150), (1, q_i p)]) dX9_isPlaceTaken_34 rfl rfl (by decide) rfl ?_
            refine q_goto (pc' := 4) dX9_isPlaceTaken_37 rfl ?_
            refine p_sub [2, 3, 1, 0] rfl ?_
            exact qih_4 _ (by omega) _ _ (by first | assumption | omega) (by first | assumption | omega) (by first | exact q_B_1 ((s_tkN_s (by omega)).mpr (Or.inr (by assumption))) | exact q_B_1 ((s_tkN_s (by omega)).mpr (Or.inl (by rcases zr with q | q; exact q.1; omega))) | exact q_B_0 (fun q => by rcases (s_tkN_s (by omega)).mp q with q1 | q1; (rcases zr with q2 | q2; omega; exact q2.1 q1); omega)) rfl
  refine p_sub [2, 3, 1, 0] rfl ?_
  exact qlp_4 _ _ _ (by first | assumption | omega) (by first | assumption | omega) (by exact q_B_0 (fun ⟨r, r0, r1, _⟩ => by omega)) rfl
