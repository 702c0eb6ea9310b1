set_option maxRecDepth 20000 in
set_option maxHeartbeats 4000000 in
theorem c_X9_within {Γ : q_G} {K : List q_K} {S : q_S} {v l h : Int} (hv : q_rg v) (hl : q_rg l) (hh : q_rg h) : q_Sp Γ mX9_within 0 0 0 [q_i v, q_i l, q_i h] (K, S) (q_ev (some (q_i (q_B (l ≤ v ∧ v ≤ h)))) (K, S)) := by
  show q_Go Γ mX9_within 0 0 0 0 [(0, q_i v), (1, q_i l), (2, q_i h)] [] (K, S) (q_ev (some (q_i (q_B (l ≤ v ∧ v ≤ h)))) (K, S))
  refine q_iloadn (pc' := 1) 0 dX9_within_0 rfl rfl ?_
  refine q_iloadn (pc' := 2) 1 dX9_within_1 rfl rfl ?_
  refine q_icmp_lt (tgt := 14) (pc' := 5) dX9_within_2 rfl rfl (by omega) (by omega) (fun c2 => ?_) (fun c2 => ?_)
  · refine q_iconst (pc' := 15) dX9_within_14 rfl ?_
    refine p_zret dX9_within_15 rfl ?_ ?_
    · first | (rw [q_B_t ⟨by omega, by omega⟩]; done) | (rw [q_B_f (by omega)]; done)
    · rfl
  · refine q_iloadn (pc' := 6) 0 dX9_within_5 rfl rfl ?_
    refine q_iloadn (pc' := 7) 2 dX9_within_6 rfl rfl ?_
    refine q_icmp_gt (tgt := 14) (pc' := 10) dX9_within_7 rfl rfl (by omega) (by omega) (fun c7 => ?_) (fun c7 => ?_)
    · refine q_iconst (pc' := 15) dX9_within_14 rfl ?_
      refine p_zret dX9_within_15 rfl ?_ ?_
      · first | (rw [q_B_t ⟨by omega, by omega⟩]; done) | (rw [q_B_f (by omega)]; done)
      · rfl
    · refine q_iconst (pc' := 11) dX9_within_10 rfl ?_
      refine q_goto (pc' := 15) dX9_within_11 rfl ?_
      refine p_zret dX9_within_15 rfl ?_ ?_
      · first | (rw [q_B_t ⟨by omega, by omega⟩]; done) | (rw [q_B_f (by omega)]; done)
      · rfl
set_option maxRecDepth 20000 in
set_option maxHeartbeats 4000000 in
theorem c_X9_part {Γ : q_G} {S : q_S} {r p : Int} (r0 : 0 ≤ 15 + 4 * r + p) (r1 : 15 + 4 * r + p < 489) : q_Sp Γ mX9_part 0 0 0 [q_r Γ 150, q_i r, q_i p] (KC, S) (q_ev (some (q_i (s_pt (S 151) r p))) (KC, S)) := by
  show q_Go Γ mX9_part 0 0 0 0 [(0, q_r Γ 150), (1, q_i r), (2, q_i p)] [] (KC, S) (q_ev (some (q_i (s_pt (S 151) r p))) (KC, S))
  refine q_aloadn (pc' := 1) 0 dX9_part_0 rfl rfl ?_
  refine p_getR (pc' := 4) (f := 151) dX9_part_1 rfl fX9_7 kc150 rfl ?_
  refine q_bipush (pc' := 6) dX9_part_4 rfl rfl ?_
  refine q_iconst (pc' := 7) dX9_part_6 rfl ?_
  refine q_iloadn (pc' := 8) 1 dX9_part_7 rfl rfl ?_
  refine q_imul (pc' := 9) dX9_part_8 rfl ?_
  refine q_iadd (pc' := 10) dX9_part_9 rfl ?_
  refine q_iloadn (pc' := 11) 2 dX9_part_10 rfl rfl ?_
  refine q_iadd (pc' := 12) dX9_part_11 rfl ?_
  refine p_iald (pc' := 13) dX9_part_12 rfl kc151 (by omega) (by omega) (by decide) (fun y12 ey12 ry12 => ?_)
  refine p_iret dX9_part_13 rfl ?_ ?_
  · assumption
  · rfl
set_option maxRecDepth 20000 in
set_option maxHeartbeats 4000000 in
theorem c_X9_rightOf {Γ : q_G} {S : q_S} {a b h : Int} (r0 : 0 ≤ 39 + 10 * (6 * a + b) + h) (r1 : 39 + 10 * (6 * a + b) + h < 489) : q_Sp Γ mX9_rightOf 0 0 0 [q_r Γ 150, q_i a, q_i b, q_i h] (KC, S) (q_ev (some (q_i (s_rt (S 151) a b h))) (KC, S)) := by
  show q_Go Γ mX9_rightOf 0 0 0 0 [(0, q_r Γ 150), (1, q_i a), (2, q_i b), (3, q_i h)] [] (KC, S) (q_ev (some (q_i (s_rt (S 151) a b h))) (KC, S))
  refine q_aloadn (pc' := 1) 0 dX9_rightOf_0 rfl rfl ?_
  refine p_getR (pc' := 4) (f := 151) dX9_rightOf_1 rfl fX9_7 kc150 rfl ?_
  refine q_bipush (pc' := 6) dX9_rightOf_4 rfl rfl ?_
  refine q_bipush (pc' := 8) dX9_rightOf_6 rfl rfl ?_
  refine q_bipush (pc' := 10) dX9_rightOf_8 rfl rfl ?_
  refine q_iloadn (pc' := 11) 1 dX9_rightOf_10 rfl rfl ?_
  refine q_imul (pc' := 12) dX9_rightOf_11 rfl ?_
  refine q_iloadn (pc' := 13) 2 dX9_rightOf_12 rfl rfl ?_
  refine q_iadd (pc' := 14) dX9_rightOf_13 rfl ?_
  refine q_imul (pc' := 15) dX9_rightOf_14 rfl ?_
  refine q_iadd (pc' := 16) dX9_rightOf_15 rfl ?_
  refine q_iloadn (pc' := 17) 3 dX9_rightOf_16 rfl rfl ?_
  refine q_iadd (pc' := 18) dX9_rightOf_17 rfl ?_
  refine p_iald (pc' := 19) dX9_rightOf_18 rfl kc151 (by omega) (by omega) (by decide) (fun y18 ey18 ry18 => ?_)
  refine p_iret dX9_rightOf_19 rfl ?_ ?_
  · assumption
  · rfl
set_option maxRecDepth 20000 in
set_option maxHeartbeats 4000000 in
theorem c_X9_askPart {Γ : q_G} {S : q_S} {i p : Int} (r0 : 0 ≤ 399 + 4 * i + p) (r1 : 399 + 4 * i + p < 489) : q_Sp Γ mX9_askPart 0 0 0 [q_r Γ 150, q_i i, q_i p] (KC, S) (q_ev (some (q_i (s_as (S 151) i p))) (KC, S)) := by
  show q_Go Γ mX9_askPart 0 0 0 0 [(0, q_r Γ 150), (1, q_i i), (2, q_i p)] [] (KC, S) (q_ev (some (q_i (s_as (S 151) i p))) (KC, S))
  refine q_aloadn (pc' := 1) 0 dX9_askPart_0 rfl rfl ?_
  refine p_getR (pc' := 4) (f := 151) dX9_askPart_1 rfl fX9_7 kc150 rfl ?_
  refine q_sipush (pc' := 7) dX9_askPart_4 rfl rfl ?_
  refine q_iconst (pc' := 8) dX9_askPart_7 rfl ?_
  refine q_iloadn (pc' := 9) 1 dX9_askPart_8 rfl rfl ?_
  refine q_imul (pc' := 10) dX9_askPart_9 rfl ?_
  refine q_iadd (pc' := 11) dX9_askPart_10 rfl ?_
  refine q_iloadn (pc' := 12) 2 dX9_askPart_11 rfl rfl ?_
  refine q_iadd (pc' := 13) dX9_askPart_12 rfl ?_
  refine p_iald (pc' := 14) dX9_askPart_13 rfl kc151 (by omega) (by omega) (by decide) (fun y13 ey13 ry13 => ?_)
  refine p_iret dX9_askPart_14 rfl ?_ ?_
  · assumption
  · rfl
set_option maxRecDepth 20000 in
set_option maxHeartbeats 4000000 in
theorem c_X9_bidPart {Γ : q_G} {S : q_S} {i p : Int} (r0 : 0 ≤ 439 + 5 * i + p) (r1 : 439 + 5 * i + p < 489) : q_Sp Γ mX9_bidPart 0 0 0 [q_r Γ 150, q_i i, q_i p] (KC, S) (q_ev (some (q_i (s_bd (S 151) i p))) (KC, S)) := by
  show q_Go Γ mX9_bidPart 0 0 0 0 [(0, q_r Γ 150), (1, q_i i), (2, q_i p)] [] (KC, S) (q_ev (some (q_i (s_bd (S 151) i p))) (KC, S))
  refine q_aloadn (pc' := 1) 0 dX9_bidPart_0 rfl rfl ?_
  refine p_getR (pc' := 4) (f := 151) dX9_bidPart_1 rfl fX9_7 kc150 rfl ?_
  refine q_sipush (pc' := 7) dX9_bidPart_4 rfl rfl ?_
  refine q_iconst (pc' := 8) dX9_bidPart_7 rfl ?_
  refine q_iloadn (pc' := 9) 1 dX9_bidPart_8 rfl rfl ?_
  refine q_imul (pc' := 10) dX9_bidPart_9 rfl ?_
  refine q_iadd (pc' := 11) dX9_bidPart_10 rfl ?_
  refine q_iloadn (pc' := 12) 2 dX9_bidPart_11 rfl rfl ?_
  refine q_iadd (pc' := 13) dX9_bidPart_12 rfl ?_
  refine p_iald (pc' := 14) dX9_bidPart_13 rfl kc151 (by omega) (by omega) (by decide) (fun y13 ey13 ry13 => ?_)
  refine p_iret dX9_bidPart_14 rfl ?_ ?_
  · assumption
  · rfl
set_option maxRecDepth 20000 in
set_option maxHeartbeats 4000000 in
theorem c_X9_isRow {Γ : q_G} {S : q_S} {r : Int} (ok : s_ok (S 151)) (hr : q_rg r) : q_Sp Γ mX9_isRow 1 0 0 [q_r Γ 150, q_i r] (KC, S) (q_ev (some (q_i (q_B (0 ≤ r ∧ r < S 151 0)))) (KC, S)) := by
  show q_Go Γ mX9_isRow 1 0 0 0 [(0, q_r Γ 150), (1, q_i r)] [] (KC, S) (q_ev (some (q_i (q_B (0 ≤ r ∧ r < S 151 0)))) (KC, S))
  have rw0 := s_rows_b ok
  refine q_iloadn (pc' := 1) 1 dX9_isRow_0 rfl rfl ?_
  refine q_iconst (pc' := 2) dX9_isRow_1 rfl ?_
  refine q_aloadn (pc' := 3) 0 dX9_isRow_2 rfl rfl ?_
  refine p_getR (pc' := 6) (f := 151) dX9_isRow_3 rfl fX9_7 kc150 rfl ?_
  refine q_iconst (pc' := 7) dX9_isRow_6 rfl ?_
  refine p_iald (pc' := 8) dX9_isRow_7 rfl kc151 (by omega) (by omega) (by decide) (fun y7 ey7 ry7 => ?_)
  refine q_iconst (pc' := 9) dX9_isRow_8 rfl ?_
  refine q_isub (pc' := 10) dX9_isRow_9 rfl ?_
  refine q_callSI (pc' := 13) dX9_isRow_10 rfl lX9_42 iX9_within (c_X9_within (by omega) (by omega) (by omega)) rfl rfl (Nat.le_of_ble_eq_true rfl) (Nat.le_of_ble_eq_true rfl) (Nat.le_of_ble_eq_true rfl) ?_
  refine p_zret dX9_isRow_13 rfl ?_ ?_
  · refine q_B_congr ?_; omega
  · rfl
set_option maxRecDepth 20000 in
set_option maxHeartbeats 4000000 in
theorem c_X9_isHour {Γ : q_G} {S : q_S} {h : Int} (hr : q_rg h) : q_Sp Γ mX9_isHour 1 0 0 [q_i h] (KC, S) (q_ev (some (q_i (q_B (0 ≤ h ∧ h < 10)))) (KC, S)) := by
  show q_Go Γ mX9_isHour 1 0 0 0 [(0, q_i h)] [] (KC, S) (q_ev (some (q_i (q_B (0 ≤ h ∧ h < 10)))) (KC, S))
  refine q_iloadn (pc' := 1) 0 dX9_isHour_0 rfl rfl ?_
  refine q_iconst (pc' := 2) dX9_isHour_1 rfl ?_
  refine q_bipush (pc' := 4) dX9_isHour_2 rfl rfl ?_
  refine q_callSI (pc' := 7) dX9_isHour_4 rfl lX9_42 iX9_within (c_X9_within (by omega) (by omega) (by omega)) rfl rfl (Nat.le_of_ble_eq_true rfl) (Nat.le_of_ble_eq_true rfl) (Nat.le_of_ble_eq_true rfl) ?_
  refine p_zret dX9_isHour_7 rfl ?_ ?_
  · refine q_B_congr ?_; omega
  · rfl
set_option maxRecDepth 20000 in
set_option maxHeartbeats 4000000 in
theorem c_X9_slopeOf {Γ : q_G} {S : q_S} {h : Int} (h0 : 0 ≤ h) (h1 : h < 10) : q_Sp Γ mX9_slopeOf 0 0 0 [q_i h] (KC, S) (q_ev (some (q_i (s_slope h))) (KC, S)) := by
  show q_Go Γ mX9_slopeOf 0 0 0 0 [(0, q_i h)] [] (KC, S) (q_ev (some (q_i (s_slope h))) (KC, S))
  refine q_iloadn (pc' := 1) 0 dX9_slopeOf_0 rfl rfl ?_
  refine q_iconst (pc' := 2) dX9_slopeOf_1 rfl ?_
  refine q_icmp_ge (tgt := 9) (pc' := 5) dX9_slopeOf_2 rfl rfl (by omega) (by decide) (fun c2 => ?_) (fun c2 => ?_)
  · refine q_bipush (pc' := 11) dX9_slopeOf_9 rfl rfl ?_
    refine q_iloadn (pc' := 12) 0 dX9_slopeOf_11 rfl rfl ?_
    refine q_isub (pc' := 13) dX9_slopeOf_12 rfl ?_
    refine q_istoren (pc' := 14) (L' := [(1, q_i (9 - h)), (0, q_i h)]) dX9_slopeOf_13 rfl rfl (by decide) rfl ?_
    refine q_iloadn (pc' := 15) 0 dX9_slopeOf_14 rfl rfl ?_
    refine q_if_ne (tgt := 23) (pc' := 18) dX9_slopeOf_15 rfl rfl (by omega) (fun c15 => ?_) (fun c15 => ?_)
    · refine q_iconst (pc' := 24) dX9_slopeOf_23 rfl ?_
      refine q_iloadn (pc' := 25) 0 dX9_slopeOf_24 rfl rfl ?_
      refine q_isub (pc' := 26) dX9_slopeOf_25 rfl ?_
      refine p_iret dX9_slopeOf_26 rfl ?_ ?_
      · unfold s_slope; omega
      · rfl
    · refine q_bipush (pc' := 20) dX9_slopeOf_18 rfl rfl ?_
      refine q_goto (pc' := 26) dX9_slopeOf_20 rfl ?_
      refine p_iret dX9_slopeOf_26 rfl ?_ ?_
      · unfold s_slope; omega
      · rfl
  · refine q_iloadn (pc' := 6) 0 dX9_slopeOf_5 rfl rfl ?_
    refine q_goto (pc' := 13) dX9_slopeOf_6 rfl ?_
    refine q_istoren (pc' := 14) (L' := [(1, q_i h), (0, q_i h)]) dX9_slopeOf_13 rfl rfl (by decide) rfl ?_
    refine q_iloadn (pc' := 15) 0 dX9_slopeOf_14 rfl rfl ?_
    refine q_if_ne (tgt := 23) (pc' := 18) dX9_slopeOf_15 rfl rfl (by omega) (fun c15_1 => ?_) (fun c15_1 => ?_)
    · refine q_iconst (pc' := 24) dX9_slopeOf_23 rfl ?_
      refine q_iloadn (pc' := 25) 0 dX9_slopeOf_24 rfl rfl ?_
      refine q_isub (pc' := 26) dX9_slopeOf_25 rfl ?_
      refine p_iret dX9_slopeOf_26 rfl ?_ ?_
      · unfold s_slope; omega
      · rfl
    · refine q_bipush (pc' := 20) dX9_slopeOf_18 rfl rfl ?_
      refine q_goto (pc' := 26) dX9_slopeOf_20 rfl ?_
      refine p_iret dX9_slopeOf_26 rfl ?_ ?_
      · unfold s_slope; omega
      · rfl
set_option maxRecDepth 20000 in
set_option maxHeartbeats 4000000 in
theorem c_X9_sunOf {Γ : q_G} {S : q_S} {h : Int} (h0 : 0 ≤ h) (h1 : h < 10) : q_Sp Γ mX9_sunOf 0 0 0 [q_i h] (KC, S) (q_ev (some (q_i (s_sun h))) (KC, S)) := by
  show q_Go Γ mX9_sunOf 0 0 0 0 [(0, q_i h)] [] (KC, S) (q_ev (some (q_i (s_sun h))) (KC, S))
  refine q_iloadn (pc' := 1) 0 dX9_sunOf_0 rfl rfl ?_
  refine q_iconst (pc' := 2) dX9_sunOf_1 rfl ?_
  refine q_icmp_ge (tgt := 11) (pc' := 5) dX9_sunOf_2 rfl rfl (by omega) (by decide) (fun c2 => ?_) (fun c2 => ?_)
  · refine q_bipush (pc' := 13) dX9_sunOf_11 rfl rfl ?_
    refine q_iloadn (pc' := 14) 0 dX9_sunOf_13 rfl rfl ?_
    refine q_isub (pc' := 15) dX9_sunOf_14 rfl ?_
    refine p_iret dX9_sunOf_15 rfl ?_ ?_
    · unfold s_sun; omega
    · rfl
  · refine q_iloadn (pc' := 6) 0 dX9_sunOf_5 rfl rfl ?_
    refine q_iconst (pc' := 7) dX9_sunOf_6 rfl ?_
    refine q_iadd (pc' := 8) dX9_sunOf_7 rfl ?_
    refine q_goto (pc' := 15) dX9_sunOf_8 rfl ?_
    refine p_iret dX9_sunOf_15 rfl ?_ ?_
    · unfold s_sun; omega
    · rfl
set_option maxRecDepth 20000 in
set_option maxHeartbeats 4000000 in
theorem c_X9_shadow {Γ : q_G} {S : q_S} {a t b h : Int} (ok : s_ok (S 151)) (a0 : 0 ≤ a) (a1 : a < 6) (t0 : 0 ≤ t) (t1 : t ≤ 4) (b0 : 0 ≤ b) (b1 : b < 6) (h0 : 0 ≤ h) (h1 : h < 10) : q_Sp Γ mX9_shadow 1 0 0 [q_r Γ 150, q_i a, q_i t, q_i b, q_i h] (KC, S) (q_ev (some (q_i (s_sh (S 151) a t b h))) (KC, S)) := by
  show q_Go Γ mX9_shadow 1 0 0 0 [(0, q_r Γ 150), (1, q_i a), (2, q_i t), (3, q_i b), (4, q_i h)] [] (KC, S) (q_ev (some (q_i (s_sh (S 151) a t b h))) (KC, S))
  have pa := s_pt_b ok a0 a1
  have pb := s_pt_b ok b0 b1
  have sb := s_slope_b h0 h1
  have hm := q_mulb pa.2.1.1 pa.2.1.2 t0 t1
  refine q_iload (pc' := 2) 4 dX9_shadow_0 rfl rfl ?_
  refine q_iconst (pc' := 3) dX9_shadow_2 rfl ?_
  refine q_icmp_ge (tgt := 22) (pc' := 6) dX9_shadow_3 rfl rfl (by omega) (by decide) (fun c3 => ?_) (fun c3 => ?_)
  · refine q_aloadn (pc' := 23) 0 dX9_shadow_22 rfl rfl ?_
    refine q_iloadn (pc' := 24) 1 dX9_shadow_23 rfl rfl ?_
    refine q_iconst (pc' := 25) dX9_shadow_24 rfl ?_
    refine q_callVI (pc' := 28) dX9_shadow_25 rfl lX9_46 iX9_part kc150 rfl (c_X9_part (by omega) (by omega)) rfl rfl (Nat.le_of_ble_eq_true rfl) (Nat.le_of_ble_eq_true rfl) (Nat.le_of_ble_eq_true rfl) ?_
    refine q_aloadn (pc' := 29) 0 dX9_shadow_28 rfl rfl ?_
    refine q_iloadn (pc' := 30) 3 dX9_shadow_29 rfl rfl ?_
    refine q_iconst (pc' := 31) dX9_shadow_30 rfl ?_
    refine q_callVI (pc' := 34) dX9_shadow_31 rfl lX9_46 iX9_part kc150 rfl (c_X9_part (by omega) (by omega)) rfl rfl (Nat.le_of_ble_eq_true rfl) (Nat.le_of_ble_eq_true rfl) (Nat.le_of_ble_eq_true rfl) ?_
    refine q_isub (pc' := 35) dX9_shadow_34 rfl ?_
    refine q_istore (pc' := 37) (L' := [(5, q_i ((s_pt (S 151) a 0) - (s_pt (S 151) b 0))), (0, q_r Γ 150), (1, q_i a), (2, q_i t), (3, q_i b), (4, q_i h)]) dX9_shadow_35 rfl (by decide) rfl ?_
    have hd : ((s_pt (S 151) a 0) - (s_pt (S 151) b 0)) = s_dist (S 151) a b h := by unfold s_dist; omega
    refine q_iload (pc' := 39) 0 dX9_shadow_37 rfl rfl ?_
    refine q_if_gt (tgt := 44) (pc' := 42) dX9_shadow_39 rfl rfl (by omega) (fun c39 => ?_) (fun c39 => ?_)
    · refine q_iload (pc' := 46) 5 dX9_shadow_44 rfl rfl ?_
      refine q_callSI (pc' := 49) dX9_shadow_46 rfl lX9_50 iX9_slopeOf (c_X9_slopeOf (by omega) (by omega)) rfl rfl (Nat.le_of_ble_eq_true rfl) (Nat.le_of_ble_eq_true rfl) (Nat.le_of_ble_eq_true rfl) ?_
      refine q_istore (pc' := 51) (L' := [(6, q_i (s_slope h)), (5, q_i ((s_pt (S 151) a 0) - (s_pt (S 151) b 0))), (0, q_r Γ 150), (1, q_i a), (2, q_i t), (3, q_i b), (4, q_i h)]) dX9_shadow_49 rfl (by decide) rfl ?_
      refine q_aloadn (pc' := 52) 2 dX9_shadow_51 rfl rfl ?_
      refine q_iloadn (pc' := 53) 3 dX9_shadow_52 rfl rfl ?_
      refine q_iconst (pc' := 54) dX9_shadow_53 rfl ?_
      refine q_callVI (pc' := 57) dX9_shadow_54 rfl lX9_46 iX9_part kc150 rfl (c_X9_part (by omega) (by omega)) rfl rfl (Nat.le_of_ble_eq_true rfl) (Nat.le_of_ble_eq_true rfl) (Nat.le_of_ble_eq_true rfl) ?_
      refine q_iloadn (pc' := 58) 4 dX9_shadow_57 rfl rfl ?_
      refine q_imul (pc' := 59) dX9_shadow_58 rfl ?_
      refine q_iconst (pc' := 60) dX9_shadow_59 rfl ?_
      refine q_iload (pc' := 62) 1 dX9_shadow_60 rfl rfl ?_
      refine q_imul (pc' := 63) dX9_shadow_62 rfl ?_
      refine q_iload (pc' := 65) 0 dX9_shadow_63 rfl rfl ?_
      refine q_iadd (pc' := 66) dX9_shadow_65 rfl ?_
      refine q_iconst (pc' := 67) dX9_shadow_66 rfl ?_
      refine q_isub (pc' := 68) dX9_shadow_67 rfl ?_
      refine q_iload (pc' := 70) 0 dX9_shadow_68 rfl rfl ?_
      refine q_idiv (pc' := 71) dX9_shadow_70 rfl (by omega) (by omega) (by omega) (by omega) ?_
      refine q_isub (pc' := 72) dX9_shadow_71 rfl ?_
      refine p_top (fun x72 hx72 => ?_)
      refine q_istore (pc' := 74) (L' := [(7, q_i x72), (6, q_i (s_slope h)), (5, q_i ((s_pt (S 151) a 0) - (s_pt (S 151) b 0))), (0, q_r Γ 150), (1, q_i a), (2, q_i t), (3, q_i b), (4, q_i h)]) dX9_shadow_72 rfl (by decide) rfl ?_
      have hl : (2 * ((s_pt (S 151) a 0) - (s_pt (S 151) b 0)) + s_slope h - 1) / s_slope h = s_loss (S 151) a b h := by unfold s_loss; rw [← hd]
      have hb := s_loss_b ok a0 a1 b0 b1 h0 h1 (by omega)
      refine q_iload (pc' := 76) 0 dX9_shadow_74 rfl rfl ?_
      refine q_if_le (tgt := 84) (pc' := 79) dX9_shadow_76 rfl rfl (by omega) (fun c76 => ?_) (fun c76 => ?_)
      · refine q_iconst (pc' := 85) dX9_shadow_84 rfl ?_
        refine p_iret dX9_shadow_85 rfl ?_ ?_
        · unfold s_sh; omega
        · rfl
      · refine q_iload (pc' := 81) 0 dX9_shadow_79 rfl rfl ?_
        refine q_goto (pc' := 85) dX9_shadow_81 rfl ?_
        refine p_iret dX9_shadow_85 rfl ?_ ?_
        · unfold s_sh; omega
        · rfl
    · refine q_iconst (pc' := 43) dX9_shadow_42 rfl ?_
      refine p_iret dX9_shadow_43 rfl ?_ ?_
      · unfold s_sh; omega
      · rfl
  · refine q_aloadn (pc' := 7) 0 dX9_shadow_6 rfl rfl ?_
    refine q_iloadn (pc' := 8) 3 dX9_shadow_7 rfl rfl ?_
    refine q_iconst (pc' := 9) dX9_shadow_8 rfl ?_
    refine q_callVI (pc' := 12) dX9_shadow_9 rfl lX9_46 iX9_part kc150 rfl (c_X9_part (by omega) (by omega)) rfl rfl (Nat.le_of_ble_eq_true rfl) (Nat.le_of_ble_eq_true rfl) (Nat.le_of_ble_eq_true rfl) ?_
    refine q_aloadn (pc' := 13) 0 dX9_shadow_12 rfl rfl ?_
    refine q_iloadn (pc' := 14) 1 dX9_shadow_13 rfl rfl ?_
    refine q_iconst (pc' := 15) dX9_shadow_14 rfl ?_
    refine q_callVI (pc' := 18) dX9_shadow_15 rfl lX9_46 iX9_part kc150 rfl (c_X9_part (by omega) (by omega)) rfl rfl (Nat.le_of_ble_eq_true rfl) (Nat.le_of_ble_eq_true rfl) (Nat.le_of_ble_eq_true rfl) ?_
    refine q_isub (pc' := 19) dX9_shadow_18 rfl ?_
    refine q_goto (pc' := 35) dX9_shadow_19 rfl ?_
    refine q_istore (pc' := 37) (L' := [(5, q_i ((s_pt (S 151) b 0) - (s_pt (S 151) a 0))), (0, q_r Γ 150), (1, q_i a), (2, q_i t), (3, q_i b), (4, q_i h)]) dX9_shadow_35 rfl (by decide) rfl ?_
    have hd : ((s_pt (S 151) b 0) - (s_pt (S 151) a 0)) = s_dist (S 151) a b h := by unfold s_dist; omega
    refine q_iload (pc' := 39) 0 dX9_shadow_37 rfl rfl ?_
    refine q_if_gt (tgt := 44) (pc' := 42) dX9_shadow_39 rfl rfl (by omega) (fun c39_1 => ?_) (fun c39_1 => ?_)
    · refine q_iload (pc' := 46) 5 dX9_shadow_44 rfl rfl ?_
      refine q_callSI (pc' := 49) dX9_shadow_46 rfl lX9_50 iX9_slopeOf (c_X9_slopeOf (by omega) (by omega)) rfl rfl (Nat.le_of_ble_eq_true rfl) (Nat.le_of_ble_eq_true rfl) (Nat.le_of_ble_eq_true rfl) ?_
      refine q_istore (pc' := 51) (L' := [(6, q_i (s_slope h)), (5, q_i ((s_pt (S 151) b 0) - (s_pt (S 151) a 0))), (0, q_r Γ 150), (1, q_i a), (2, q_i t), (3, q_i b), (4, q_i h)]) dX9_shadow_49 rfl (by decide) rfl ?_
      refine q_aloadn (pc' := 52) 2 dX9_shadow_51 rfl rfl ?_
      refine q_iloadn (pc' := 53) 3 dX9_shadow_52 rfl rfl ?_
      refine q_iconst (pc' := 54) dX9_shadow_53 rfl ?_
      refine q_callVI (pc' := 57) dX9_shadow_54 rfl lX9_46 iX9_part kc150 rfl (c_X9_part (by omega) (by omega)) rfl rfl (Nat.le_of_ble_eq_true rfl) (Nat.le_of_ble_eq_true rfl) (Nat.le_of_ble_eq_true rfl) ?_
      refine q_iloadn (pc' := 58) 4 dX9_shadow_57 rfl rfl ?_
      refine q_imul (pc' := 59) dX9_shadow_58 rfl ?_
      refine q_iconst (pc' := 60) dX9_shadow_59 rfl ?_
      refine q_iload (pc' := 62) 1 dX9_shadow_60 rfl rfl ?_
      refine q_imul (pc' := 63) dX9_shadow_62 rfl ?_
      refine q_iload (pc' := 65) 0 dX9_shadow_63 rfl rfl ?_
      refine q_iadd (pc' := 66) dX9_shadow_65 rfl ?_
      refine q_iconst (pc' := 67) dX9_shadow_66 rfl ?_
      refine q_isub (pc' := 68) dX9_shadow_67 rfl ?_
      refine q_iload (pc' := 70) 0 dX9_shadow_68 rfl rfl ?_
      refine q_idiv (pc' := 71) dX9_shadow_70 rfl (by omega) (by omega) (by omega) (by omega) ?_
      refine q_isub (pc' := 72) dX9_shadow_71 rfl ?_
      refine p_top (fun x72_1 hx72_1 => ?_)
      refine q_istore (pc' := 74) (L' := [(7, q_i x72_1), (6, q_i (s_slope h)), (5, q_i ((s_pt (S 151) b 0) - (s_pt (S 151) a 0))), (0, q_r Γ 150), (1, q_i a), (2, q_i t), (3, q_i b), (4, q_i h)]) dX9_shadow_72 rfl (by decide) rfl ?_
      have hl : (2 * ((s_pt (S 151) b 0) - (s_pt (S 151) a 0)) + s_slope h - 1) / s_slope h = s_loss (S 151) a b h := by unfold s_loss; rw [← hd]
      have hb := s_loss_b ok a0 a1 b0 b1 h0 h1 (by omega)
      refine q_iload (pc' := 76) 0 dX9_shadow_74 rfl rfl ?_
      refine q_if_le (tgt := 84) (pc' := 79) dX9_shadow_76 rfl rfl (by omega) (fun c76_1 => ?_) (fun c76_1 => ?_)
      · refine q_iconst (pc' := 85) dX9_shadow_84 rfl ?_
        refine p_iret dX9_shadow_85 rfl ?_ ?_
        · unfold s_sh; omega
        · rfl
      · refine q_iload (pc' := 81) 0 dX9_shadow_79 rfl rfl ?_
        refine q_goto (pc' := 85) dX9_shadow_81 rfl ?_
        refine p_iret dX9_shadow_85 rfl ?_ ?_
        · unfold s_sh; omega
        · rfl
    · refine q_iconst (pc' := 43) dX9_shadow_42 rfl ?_
      refine p_iret dX9_shadow_43 rfl ?_ ?_
      · unfold s_sh; omega
      · rfl
set_option maxRecDepth 20000 in
set_option maxHeartbeats 4000000 in
theorem c_X9_isFlat {Γ : q_G} {S : q_S} {h : Int} (ok : s_ok (S 151)) (h0 : 0 ≤ h) (h1 : h < 10) : q_Sp Γ mX9_isFlat 0 0 0 [q_r Γ 150, q_i h] (KC, S) (q_ev (some (q_i (q_B (s_flat (S 151) h)))) (KC, S)) := by
  show q_Go Γ mX9_isFlat 0 0 0 0 [(0, q_r Γ 150), (1, q_i h)] [] (KC, S) (q_ev (some (q_i (q_B (s_flat (S 151) h)))) (KC, S))
  refine q_aloadn (pc' := 1) 0 dX9_isFlat_0 rfl rfl ?_
  refine p_getR (pc' := 4) (f := 151) dX9_isFlat_1 rfl fX9_7 kc150 rfl ?_
  refine q_iconst (pc' := 5) dX9_isFlat_4 rfl ?_
  refine q_iloadn (pc' := 6) 1 dX9_isFlat_5 rfl rfl ?_
  refine q_iadd (pc' := 7) dX9_isFlat_6 rfl ?_
  refine p_iald (pc' := 8) dX9_isFlat_7 rfl kc151 (by omega) (by omega) (by decide) (fun y7 ey7 ry7 => ?_)
  refine q_aloadn (pc' := 9) 0 dX9_isFlat_8 rfl rfl ?_
  refine p_getR (pc' := 12) (f := 151) dX9_isFlat_9 rfl fX9_7 kc150 rfl ?_
  refine q_iconst (pc' := 13) dX9_isFlat_12 rfl ?_
  refine p_iald (pc' := 14) dX9_isFlat_13 rfl kc151 (by omega) (by omega) (by decide) (fun y13 ey13 ry13 => ?_)
  refine q_icmp_lt (tgt := 21) (pc' := 17) dX9_isFlat_14 rfl rfl (by omega) (by omega) (fun c14 => ?_) (fun c14 => ?_)
  · refine q_iconst (pc' := 22) dX9_isFlat_21 rfl ?_
    refine p_zret dX9_isFlat_22 rfl ?_ ?_
    · first | exact (q_B_t (by unfold s_flat; omega)).symm | exact (q_B_f (by unfold s_flat; omega)).symm
    · rfl
  · refine q_iconst (pc' := 18) dX9_isFlat_17 rfl ?_
    refine q_goto (pc' := 22) dX9_isFlat_18 rfl ?_
    refine p_zret dX9_isFlat_22 rfl ?_ ?_
    · first | exact (q_B_t (by unfold s_flat; omega)).symm | exact (q_B_f (by unfold s_flat; omega)).symm
    · rfl
