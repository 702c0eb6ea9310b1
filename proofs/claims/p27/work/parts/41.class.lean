set_option maxRecDepth 20000 in
set_option maxHeartbeats 4000000 in
theorem c_X4_has {Γ : q_G} {S : q_S} {c : Nat} {k : Int} (hO : s_cO c) (n0 : 0 ≤ S c 0) (n1 : S c 0 ≤ 10) (hk : q_rg k) : q_Sp Γ mX4_has 1 0 0 [q_r Γ c, q_i k] (KC, S) (q_ev (some (q_i (q_B (0 ≤ k ∧ k < S c 0)))) (KC, S)) := by
  show q_Go Γ mX4_has 1 0 0 0 [(0, q_r Γ c), (1, q_i k)] [] (KC, S) (q_ev (some (q_i (q_B (0 ≤ k ∧ k < S c 0)))) (KC, S))
  have kO := hO.1
  have kV := hO.2.1
  have kT := hO.2.2
  refine q_iloadn (pc' := 1) 1 dX4_has_0 rfl rfl ?_
  refine q_iconst (pc' := 2) dX4_has_1 rfl ?_
  refine q_aloadn (pc' := 3) 0 dX4_has_2 rfl rfl ?_
  refine p_getJ (pc' := 6) (kz := 0) dX4_has_3 rfl fX4_9 kO rfl rfl (fun qy_3 eqy_3 rqy_3 => ?_)
  refine q_iconst (pc' := 7) dX4_has_6 rfl ?_
  refine q_isub (pc' := 8) dX4_has_7 rfl ?_
  refine q_callSI (pc' := 11) dX4_has_8 rfl lX4_28 iX8_outside (c_X8_outside (by first | assumption | exact s_cO8 | exact s_cO11 | omega) (by first | assumption | exact s_cO8 | exact s_cO11 | omega) (by first | assumption | exact s_cO8 | exact s_cO11 | omega)) rfl rfl (Nat.le_of_ble_eq_true rfl) (Nat.le_of_ble_eq_true rfl) (Nat.le_of_ble_eq_true rfl) ?_
  refine q_if_ne_B (tgt := 18) (pc' := 14) dX4_has_11 rfl rfl (fun qc_11 => ?_) (fun qc_11 => ?_)
  · refine q_iconst (pc' := 19) dX4_has_18 rfl ?_
    refine p_zret dX4_has_19 rfl ?_ ?_
    · first | exact q_B_1 (by omega) | exact q_B_0 (by omega)
    · rfl
  · refine q_iconst (pc' := 15) dX4_has_14 rfl ?_
    refine q_goto (pc' := 19) dX4_has_15 rfl ?_
    refine p_zret dX4_has_19 rfl ?_ ?_
    · first | exact q_B_1 (by omega) | exact q_B_0 (by omega)
    · rfl
set_option maxRecDepth 20000 in
set_option maxHeartbeats 4000000 in
theorem c_X4_get {Γ : q_G} {S : q_S} {c : Nat} {k u : Int} (hO : s_cO c) (k0 : 0 ≤ k) (k1 : k < 10) (u0 : 0 ≤ u) (u1 : u < 5) : q_Sp Γ mX4_get 0 0 0 [q_r Γ c, q_i k, q_i u] (KC, S) (q_ev (some (q_i (S (c + 1) (5 * k + u)))) (KC, S)) := by
  show q_Go Γ mX4_get 0 0 0 0 [(0, q_r Γ c), (1, q_i k), (2, q_i u)] [] (KC, S) (q_ev (some (q_i (S (c + 1) (5 * k + u)))) (KC, S))
  have kO := hO.1
  have kV := hO.2.1
  have kT := hO.2.2
  refine q_aloadn (pc' := 1) 0 dX4_get_0 rfl rfl ?_
  refine p_getR (pc' := 4) (f := c + 1) dX4_get_1 rfl fX4_15 kO rfl ?_
  refine q_iloadn (pc' := 5) 1 dX4_get_4 rfl rfl ?_
  refine q_iconst (pc' := 6) dX4_get_5 rfl ?_
  refine q_imul (pc' := 7) dX4_get_6 rfl ?_
  refine q_iloadn (pc' := 8) 2 dX4_get_7 rfl rfl ?_
  refine q_iadd (pc' := 9) dX4_get_8 rfl ?_
  refine p_iald (pc' := 10) dX4_get_9 rfl kV (by first | assumption | exact s_cO8 | exact s_cO11 | omega) (by first | assumption | exact s_cO8 | exact s_cO11 | omega) (by decide) (fun qy_9 eqy_9 rqy_9 => ?_)
  refine p_iret dX4_get_10 rfl ?_ ?_
  · rw [eqy_9, show k * 5 + u = 5 * k + u by omega]
  · rfl
set_option maxRecDepth 20000 in
set_option maxHeartbeats 4000000 in
theorem c_X4_add {Γ : q_G} {S : q_S} {c : Nat} {a h u p b : Int} (hO : s_cO c) (n0 : 0 ≤ S c 0) (n1 : S c 0 ≤ 10) (ra : q_rg a) (rh : q_rg h) (ru : q_rg u) (rp : q_rg p) (rb : q_rg b) : q_Sp Γ mX4_add 0 0 0 [q_r Γ c, q_i a, q_i h, q_i u, q_i p, q_i b] (KC, S) (q_ev (some (q_i (if 10 ≤ S c 0 then -4 else S c 0 + 1))) (KC, if 10 ≤ S c 0 then S else s_addS S c a h u p b)) := by
  show q_Go Γ mX4_add 0 0 0 0 [(0, q_r Γ c), (1, q_i a), (2, q_i h), (3, q_i u), (4, q_i p), (5, q_i b)] [] (KC, S) (q_ev (some (q_i (if 10 ≤ S c 0 then -4 else S c 0 + 1))) (KC, if 10 ≤ S c 0 then S else s_addS S c a h u p b))
  have kO := hO.1
  have kV := hO.2.1
  have kT := hO.2.2
  refine q_aloadn (pc' := 1) 0 dX4_add_0 rfl rfl ?_
  refine p_getJ (pc' := 4) (kz := 0) dX4_add_1 rfl fX4_9 kO rfl rfl (fun qy_1 eqy_1 rqy_1 => ?_)
  refine q_bipush (pc' := 6) dX4_add_4 rfl rfl ?_
  refine q_icmp_lt (tgt := 12) (pc' := 9) dX4_add_6 rfl rfl (by first | assumption | exact s_cO8 | exact s_cO11 | omega) (by decide) (fun qc_6 => ?_) (fun qc_6 => ?_)
  · refine q_aloadn (pc' := 13) 0 dX4_add_12 rfl rfl ?_
    refine p_getJ (pc' := 16) (kz := 0) dX4_add_13 rfl fX4_9 kO rfl rfl (fun qy_13 eqy_13 rqy_13 => ?_)
    rw [eqy_13]
    refine q_iconst (pc' := 17) dX4_add_16 rfl ?_
    refine q_imul (pc' := 18) dX4_add_17 rfl ?_
    refine q_istore (pc' := 20) (L' := [(6, q_i ((S c 0) * 5)), (0, q_r Γ c), (1, q_i a), (2, q_i h), (3, q_i u), (4, q_i p), (5, q_i b)]) dX4_add_18 rfl (by decide) rfl ?_
    refine q_aloadn (pc' := 21) 1 dX4_add_20 rfl rfl ?_
    refine p_getR (pc' := 24) (f := c + 1) dX4_add_21 rfl fX4_15 kO rfl ?_
    refine q_iload (pc' := 26) 0 dX4_add_24 rfl rfl ?_
    refine q_iconst (pc' := 27) dX4_add_26 rfl ?_
    refine q_iadd (pc' := 28) dX4_add_27 rfl ?_
    refine q_iloadn (pc' := 29) 2 dX4_add_28 rfl rfl ?_
    refine p_iast (pc' := 30) dX4_add_29 rfl kV (by first | assumption | exact s_cO8 | exact s_cO11 | omega) (by first | assumption | exact s_cO8 | exact s_cO11 | omega) (by decide) (by first | assumption | exact s_cO8 | exact s_cO11 | omega) ?_
    refine q_aloadn (pc' := 31) 1 dX4_add_30 rfl rfl ?_
    refine p_getR (pc' := 34) (f := c + 1) dX4_add_31 rfl fX4_15 kO rfl ?_
    refine q_iload (pc' := 36) 0 dX4_add_34 rfl rfl ?_
    refine q_iconst (pc' := 37) dX4_add_36 rfl ?_
    refine q_iadd (pc' := 38) dX4_add_37 rfl ?_
    refine q_iloadn (pc' := 39) 3 dX4_add_38 rfl rfl ?_
    refine p_iast (pc' := 40) dX4_add_39 rfl kV (by first | assumption | exact s_cO8 | exact s_cO11 | omega) (by first | assumption | exact s_cO8 | exact s_cO11 | omega) (by decide) (by first | assumption | exact s_cO8 | exact s_cO11 | omega) ?_
    refine q_aloadn (pc' := 41) 1 dX4_add_40 rfl rfl ?_
    refine p_getR (pc' := 44) (f := c + 1) dX4_add_41 rfl fX4_15 kO rfl ?_
    refine q_iload (pc' := 46) 0 dX4_add_44 rfl rfl ?_
    refine q_iconst (pc' := 47) dX4_add_46 rfl ?_
    refine q_iadd (pc' := 48) dX4_add_47 rfl ?_
    refine q_iloadn (pc' := 49) 4 dX4_add_48 rfl rfl ?_
    refine p_iast (pc' := 50) dX4_add_49 rfl kV (by first | assumption | exact s_cO8 | exact s_cO11 | omega) (by first | assumption | exact s_cO8 | exact s_cO11 | omega) (by decide) (by first | assumption | exact s_cO8 | exact s_cO11 | omega) ?_
    refine q_aloadn (pc' := 51) 1 dX4_add_50 rfl rfl ?_
    refine p_getR (pc' := 54) (f := c + 1) dX4_add_51 rfl fX4_15 kO rfl ?_
    refine q_iload (pc' := 56) 0 dX4_add_54 rfl rfl ?_
    refine q_iconst (pc' := 57) dX4_add_56 rfl ?_
    refine q_iadd (pc' := 58) dX4_add_57 rfl ?_
    refine q_iload (pc' := 60) 5 dX4_add_58 rfl rfl ?_
    refine p_iast (pc' := 61) dX4_add_60 rfl kV (by first | assumption | exact s_cO8 | exact s_cO11 | omega) (by first | assumption | exact s_cO8 | exact s_cO11 | omega) (by decide) (by first | assumption | exact s_cO8 | exact s_cO11 | omega) ?_
    refine q_aloadn (pc' := 62) 1 dX4_add_61 rfl rfl ?_
    refine p_getR (pc' := 65) (f := c + 1) dX4_add_62 rfl fX4_15 kO rfl ?_
    refine q_iload (pc' := 67) 0 dX4_add_65 rfl rfl ?_
    refine q_iconst (pc' := 68) dX4_add_67 rfl ?_
    refine q_iadd (pc' := 69) dX4_add_68 rfl ?_
    refine q_iload (pc' := 71) 6 dX4_add_69 rfl rfl ?_
    refine p_iast (pc' := 72) dX4_add_71 rfl kV (by first | assumption | exact s_cO8 | exact s_cO11 | omega) (by first | assumption | exact s_cO8 | exact s_cO11 | omega) (by decide) (by first | assumption | exact s_cO8 | exact s_cO11 | omega) ?_
    refine q_aloadn (pc' := 73) 1 dX4_add_72 rfl rfl ?_
    refine q_dup (pc' := 74) dX4_add_73 rfl rfl ?_
    refine p_getJ (pc' := 77) (kz := 0) dX4_add_74 rfl fX4_9 kO rfl rfl (fun qy_74 eqy_74 rqy_74 => ?_)
    have e74 : qy_74 = S c 0 := by rw [eqy_74, q_up_ne (by omega), q_up_ne (by omega), q_up_ne (by omega), q_up_ne (by omega), q_up_ne (by omega)]
    rw [e74]
    refine q_iconst (pc' := 78) dX4_add_77 rfl ?_
    refine q_iadd (pc' := 79) dX4_add_78 rfl ?_
    refine p_putJ (pc' := 82) (kz := 0) dX4_add_79 rfl fX4_9 kO rfl rfl (rfl) (rfl) (by first | assumption | exact s_cO8 | exact s_cO11 | omega) ?_
    refine q_aloadn (pc' := 83) 1 dX4_add_82 rfl rfl ?_
    refine p_getJ (pc' := 86) (kz := 0) dX4_add_83 rfl fX4_9 kO rfl rfl (fun qy_83 eqy_83 rqy_83 => ?_)
    refine p_iret dX4_add_86 rfl ?_ ?_
    · rw [if_neg (by omega), eqy_83, q_up_eq]
    · rw [if_neg (by omega)]; rfl
  · refine q_bipush (pc' := 11) dX4_add_9 rfl rfl ?_
    refine p_iret dX4_add_11 rfl ?_ ?_
    · rw [if_pos (by omega)]
    · rw [if_pos (by omega)]
set_option maxRecDepth 20000 in
set_option maxHeartbeats 4000000 in
theorem c_X4_close {Γ : q_G} {S : q_S} {c : Nat} {k : Int} (hO : s_cO c) (n0 : 0 ≤ S c 0) (n1 : S c 0 ≤ 10) (k0 : 0 ≤ k) (k1 : k < S c 0) : q_Sp Γ mX4_close 1 0 0 [q_r Γ c, q_i k] (KC, S) (q_ev none (KC, s_clS S c k)) := by
  show q_Go Γ mX4_close 1 0 0 0 [(0, q_r Γ c), (1, q_i k)] [] (KC, S) (q_ev none (KC, s_clS S c k))
  have kO := hO.1
  have kV := hO.2.1
  have kT := hO.2.2
  refine q_iloadn (pc' := 1) 1 dX4_close_0 rfl rfl ?_
  refine q_iconst (pc' := 2) dX4_close_1 rfl ?_
  refine q_iadd (pc' := 3) dX4_close_2 rfl ?_
  refine q_iconst (pc' := 4) dX4_close_3 rfl ?_
  refine q_imul (pc' := 5) dX4_close_4 rfl ?_
  refine q_istoren (pc' := 6) (L' := [(2, q_i ((k + 1) * 5)), (0, q_r Γ c), (1, q_i k)]) dX4_close_5 rfl rfl (by decide) rfl ?_
  refine q_aloadn (pc' := 7) 1 dX4_close_6 rfl rfl ?_
  refine p_getR (pc' := 10) (f := c + 1) dX4_close_7 rfl fX4_15 kO rfl ?_
  refine q_iloadn (pc' := 11) 0 dX4_close_10 rfl rfl ?_
  refine q_aloadn (pc' := 12) 1 dX4_close_11 rfl rfl ?_
  refine p_getR (pc' := 15) (f := c + 1) dX4_close_12 rfl fX4_15 kO rfl ?_
  refine q_iloadn (pc' := 16) 0 dX4_close_15 rfl rfl ?_
  refine q_iconst (pc' := 17) dX4_close_16 rfl ?_
  refine q_isub (pc' := 18) dX4_close_17 rfl ?_
  refine q_aloadn (pc' := 19) 1 dX4_close_18 rfl rfl ?_
  refine p_getJ (pc' := 22) (kz := 0) dX4_close_19 rfl fX4_9 kO rfl rfl (fun qy_19 eqy_19 rqy_19 => ?_)
  rw [eqy_19]
  refine q_iconst (pc' := 23) dX4_close_22 rfl ?_
  refine q_imul (pc' := 24) dX4_close_23 rfl ?_
  refine q_iloadn (pc' := 25) 0 dX4_close_24 rfl rfl ?_
  refine q_isub (pc' := 26) dX4_close_25 rfl ?_
  refine p_copy (pc' := 29) dX4_close_26 rfl wX4_22 (Nat.le_of_ble_eq_true rfl) (Nat.le_of_ble_eq_true rfl) kV kV (by first | assumption | exact s_cO8 | exact s_cO11 | omega) (by first | assumption | exact s_cO8 | exact s_cO11 | omega) (by first | assumption | exact s_cO8 | exact s_cO11 | omega) (by first | assumption | exact s_cO8 | exact s_cO11 | omega) (by first | assumption | exact s_cO8 | exact s_cO11 | omega) (by decide) (by decide) ?_
  refine q_aloadn (pc' := 30) 1 dX4_close_29 rfl rfl ?_
  refine q_dup (pc' := 31) dX4_close_30 rfl rfl ?_
  refine p_getJ (pc' := 34) (kz := 0) dX4_close_31 rfl fX4_9 kO rfl rfl (fun qy_31 eqy_31 rqy_31 => ?_)
  have e31 : qy_31 = S c 0 := by rw [eqy_31, q_cp_ne (by omega)]
  rw [e31]
  refine q_iconst (pc' := 35) dX4_close_34 rfl ?_
  refine q_isub (pc' := 36) dX4_close_35 rfl ?_
  refine p_putJ (pc' := 39) (kz := 0) dX4_close_36 rfl fX4_9 kO rfl rfl (rfl) (rfl) (by first | assumption | exact s_cO8 | exact s_cO11 | omega) ?_
  refine p_vret dX4_close_39 rfl ?_
  · rfl
set_option maxRecDepth 20000 in
set_option maxHeartbeats 4000000 in
theorem c_X4_take {Γ : q_G} {S : q_S} {c : Nat} {k u : Int} (hO : s_cO c) (k0 : 0 ≤ k) (k1 : k < 10) (hg : q_rg (S (c + 1) (k * 5 + 2) - u)) : q_Sp Γ mX4_take 0 0 0 [q_r Γ c, q_i k, q_i u] (KC, S) (q_ev none (KC, q_up S (c + 1) (k * 5 + 2) (S (c + 1) (k * 5 + 2) - u))) := by
  show q_Go Γ mX4_take 0 0 0 0 [(0, q_r Γ c), (1, q_i k), (2, q_i u)] [] (KC, S) (q_ev none (KC, q_up S (c + 1) (k * 5 + 2) (S (c + 1) (k * 5 + 2) - u)))
  have kO := hO.1
  have kV := hO.2.1
  have kT := hO.2.2
  refine q_aloadn (pc' := 1) 0 dX4_take_0 rfl rfl ?_
  refine p_getR (pc' := 4) (f := c + 1) dX4_take_1 rfl fX4_15 kO rfl ?_
  refine q_iloadn (pc' := 5) 1 dX4_take_4 rfl rfl ?_
  refine q_iconst (pc' := 6) dX4_take_5 rfl ?_
  refine q_imul (pc' := 7) dX4_take_6 rfl ?_
  refine q_iconst (pc' := 8) dX4_take_7 rfl ?_
  refine q_iadd (pc' := 9) dX4_take_8 rfl ?_
  refine q_dup2 (pc' := 10) dX4_take_9 rfl rfl rfl ?_
  refine p_iald (pc' := 11) dX4_take_10 rfl kV (by first | assumption | exact s_cO8 | exact s_cO11 | omega) (by first | assumption | exact s_cO8 | exact s_cO11 | omega) (by decide) (fun qy_10 eqy_10 rqy_10 => ?_)
  rw [eqy_10]
  refine q_iloadn (pc' := 12) 2 dX4_take_11 rfl rfl ?_
  refine q_isub (pc' := 13) dX4_take_12 rfl ?_
  refine p_iast (pc' := 14) dX4_take_13 rfl kV (by first | assumption | exact s_cO8 | exact s_cO11 | omega) (by first | assumption | exact s_cO8 | exact s_cO11 | omega) (by decide) (by first | assumption | exact s_cO8 | exact s_cO11 | omega) ?_
  refine p_vret dX4_take_14 rfl ?_
  · rfl
set_option maxRecDepth 20000 in
set_option maxHeartbeats 4000000 in
theorem c_X4_removeEmpty {Γ : q_G} {S : q_S} {c : Nat}  (hO : s_cO c) (n0 : 0 ≤ S c 0) (n1 : S c 0 ≤ 10) : q_Sp Γ mX4_removeEmpty 2 0 0 [q_r Γ c] (KC, S) (q_ev none (KC, s_reN c (S c 0).toNat S)) := by
  show q_Go Γ mX4_removeEmpty 2 0 0 0 [(0, q_r Γ c)] [] (KC, S) (q_ev none (KC, s_reN c (S c 0).toNat S))
  have kO := hO.1
  have kV := hO.2.1
  have kT := hO.2.2
  refine q_aloadn (pc' := 1) 0 dX4_removeEmpty_0 rfl rfl ?_
  refine p_getJ (pc' := 4) (kz := 0) dX4_removeEmpty_1 rfl fX4_9 kO rfl rfl (fun qy_1 eqy_1 rqy_1 => ?_)
  refine q_iconst (pc' := 5) dX4_removeEmpty_4 rfl ?_
  refine q_isub (pc' := 6) dX4_removeEmpty_5 rfl ?_
  refine q_istoren (pc' := 7) (L' := [(1, q_i (qy_1 - 1)), (0, q_r Γ c)]) dX4_removeEmpty_6 rfl rfl (by decide) rfl ?_
  have qlp_7 : ∀ (qn_7 : Nat) (S2 : q_S) (k : Int), (-1 ≤ k) → (k < S2 c 0) → (S2 c 0 ≤ 10) → (s_reN c (k + 1).toNat S2 = s_reN c (S c 0).toNat S) → ((k + 1).toNat) = qn_7 → q_Go Γ mX4_removeEmpty 2 0 0 7 [(0, q_r Γ c), (1, q_i k)] [] (KC, S2) (q_ev none (KC, s_reN c (S c 0).toNat S)) := by
    intro qn_7
    induction qn_7 using Nat.strongRecOn with
    | ind qn_7 qih_7 =>
      intro S2 k qa_7_0 qa_7_1 qa_7_2 qa_7_3 qhn_7
      subst qhn_7
      refine q_iloadn (pc' := 8) 1 dX4_removeEmpty_7 rfl rfl ?_
      refine q_if_lt (tgt := 31) (pc' := 11) dX4_removeEmpty_8 rfl rfl (by first | assumption | exact s_cO8 | exact s_cO11 | omega) (fun qc_8 => ?_) (fun qc_8 => ?_)
      · refine p_vret dX4_removeEmpty_31 rfl ?_
        · exact congrArg (Prod.mk KC) (s_reN_0 qa_7_3 (by omega))
      · refine q_aloadn (pc' := 12) 0 dX4_removeEmpty_11 rfl rfl ?_
        refine q_iloadn (pc' := 13) 1 dX4_removeEmpty_12 rfl rfl ?_
        refine q_iconst (pc' := 14) dX4_removeEmpty_13 rfl ?_
        refine q_callVI (pc' := 17) dX4_removeEmpty_14 rfl lX4_40 iX4_get kO rfl (c_X4_get (by first | assumption | exact s_cO8 | exact s_cO11 | omega) (by first | assumption | exact s_cO8 | exact s_cO11 | omega) (by first | assumption | exact s_cO8 | exact s_cO11 | omega) (by first | assumption | exact s_cO8 | exact s_cO11 | omega) (by first | assumption | exact s_cO8 | exact s_cO11 | omega)) rfl rfl (Nat.le_of_ble_eq_true rfl) (Nat.le_of_ble_eq_true rfl) (Nat.le_of_ble_eq_true rfl) ?_
        refine p_rng (fun hrg => ?_)
        have r17 := hrg (c + 1) (5 * k + 2)
        refine q_if_ne (tgt := 25) (pc' := 20) dX4_removeEmpty_17 rfl rfl (by first | assumption | exact s_cO8 | exact s_cO11 | omega) (fun qc_17 => ?_) (fun qc_17 => ?_)
        · refine q_iinc (pc' := 28) 1 (L' := [(1, q_i (k + (-1))), (0, q_r Γ c)]) dX4_removeEmpty_25 rfl rfl (by decide) rfl ?_
          refine q_goto (pc' := 7) dX4_removeEmpty_28 rfl ?_
          refine p_sub [1, 0] rfl ?_
          exact qih_7 _ (by omega) _ _ (by first | assumption | exact s_cO8 | exact s_cO11 | omega) (by first | omega | (rw [s_clS_n]; omega)) (by first | omega | (rw [s_clS_n]; omega)) (by first | exact s_reN_t qa_7_3 (by omega) (by omega) | exact s_reN_f qa_7_3 (by omega) (by omega)) rfl
        · refine q_aloadn (pc' := 21) 0 dX4_removeEmpty_20 rfl rfl ?_
          refine q_iloadn (pc' := 22) 1 dX4_removeEmpty_21 rfl rfl ?_
          refine q_callVV (pc' := 25) dX4_removeEmpty_22 rfl lX4_36 iX4_close kO rfl (c_X4_close (by first | assumption | exact s_cO8 | exact s_cO11 | omega) (by first | assumption | exact s_cO8 | exact s_cO11 | omega) (by first | assumption | exact s_cO8 | exact s_cO11 | omega) (by first | assumption | exact s_cO8 | exact s_cO11 | omega) (by first | assumption | exact s_cO8 | exact s_cO11 | omega)) rfl rfl (Nat.le_of_ble_eq_true rfl) (Nat.le_of_ble_eq_true rfl) (Nat.le_of_ble_eq_true rfl) ?_
          refine q_iinc (pc' := 28) 1 (L' := [(1, q_i (k + (-1))), (0, q_r Γ c)]) dX4_removeEmpty_25 rfl rfl (by decide) rfl ?_
          refine q_goto (pc' := 7) dX4_removeEmpty_28 rfl ?_
          refine p_sub [1, 0] rfl ?_
          exact qih_7 _ (by omega) _ _ (by first | assumption | exact s_cO8 | exact s_cO11 | omega) (by first | omega | (rw [s_clS_n]; omega)) (by first | omega | (rw [s_clS_n]; omega)) (by first | exact s_reN_t qa_7_3 (by omega) (by omega) | exact s_reN_f qa_7_3 (by omega) (by omega)) rfl
  refine p_sub [1, 0] rfl ?_
  exact qlp_7 _ _ _ (by first | assumption | exact s_cO8 | exact s_cO11 | omega) (by first | assumption | exact s_cO8 | exact s_cO11 | omega) (by first | assumption | exact s_cO8 | exact s_cO11 | omega) (by rw [eqy_1, show S c 0 - 1 + 1 = S c 0 by omega]) rfl
set_option maxRecDepth 20000 in
set_option maxHeartbeats 4000000 in
theorem c_X4_sortByPrice {Γ : q_G} {S : q_S} {c : Nat} {s : Int} (hO : s_cO c) (n0 : 0 ≤ S c 0) (n1 : S c 0 ≤ 10) (hs : s = 1 ∨ s = -1) (HP : ∀ k, 0 ≤ k → k < S c 0 → 0 ≤ S (c + 1) (5 * k + 3) ∧ S (c + 1) (5 * k + 3) ≤ 999) : q_Sp Γ mX4_sortByPrice 1 0 0 [q_r Γ c, q_i s] (KC, S) (fun v w => v = none ∧ ∃ S2, w = (KC, S2) ∧ (∀ a, a ≠ c + 2 → S2 a = S a) ∧ s_so (s_vl S c s) (S2 (c + 2)) (S c 0)) := by
  show q_Go Γ mX4_sortByPrice 1 0 0 0 [(0, q_r Γ c), (1, q_i s)] [] (KC, S) (fun v w => v = none ∧ ∃ S2, w = (KC, S2) ∧ (∀ a, a ≠ c + 2 → S2 a = S a) ∧ s_so (s_vl S c s) (S2 (c + 2)) (S c 0))
  have kO := hO.1
  have kV := hO.2.1
  have kT := hO.2.2
  refine q_iconst (pc' := 1) dX4_sortByPrice_0 rfl ?_
  refine q_istoren (pc' := 2) (L' := [(2, q_i 0), (0, q_r Γ c), (1, q_i s)]) dX4_sortByPrice_1 rfl rfl (by decide) rfl ?_
  have qlp_2 : ∀ (qn_2 : Nat) (S2 : q_S) (m : Int), (0 ≤ m) → (m ≤ S c 0) → (∀ a, a ≠ c + 2 → S2 a = S a) → (s_so (s_vl S c s) (S2 (c + 2)) m) → ((S c 0 - m).toNat) = qn_2 → q_Go Γ mX4_sortByPrice 1 0 0 2 [(0, q_r Γ c), (1, q_i s), (2, q_i m)] [] (KC, S2) (fun v w => v = none ∧ ∃ S2, w = (KC, S2) ∧ (∀ a, a ≠ c + 2 → S2 a = S a) ∧ s_so (s_vl S c s) (S2 (c + 2)) (S c 0)) := by
    intro qn_2
    induction qn_2 using Nat.strongRecOn with
    | ind qn_2 qih_2 =>
      intro S2 m qa_2_0 qa_2_1 qa_2_2 qa_2_3 qhn_2
      subst qhn_2
      have e8 := qa_2_2 c (by omega)
      have e9 := qa_2_2 (c + 1) (by omega)
      refine q_iloadn (pc' := 3) 2 dX4_sortByPrice_2 rfl rfl ?_
      refine q_aloadn (pc' := 4) 0 dX4_sortByPrice_3 rfl rfl ?_
      refine p_getJ (pc' := 7) (kz := 0) dX4_sortByPrice_4 rfl fX4_9 kO rfl rfl (fun qy_4 eqy_4 rqy_4 => ?_)
      have e4 : qy_4 = S c 0 := by rw [eqy_4, e8]
      rw [e4]
      refine q_icmp_ge (tgt := 83) (pc' := 10) dX4_sortByPrice_7 rfl rfl (by first | assumption | exact s_cO8 | exact s_cO11 | omega) (by first | assumption | exact s_cO8 | exact s_cO11 | omega) (fun qc_7 => ?_) (fun qc_7 => ?_)
      · exact q_vret dX4_sortByPrice_83 rfl ⟨rfl, _, rfl, qa_2_2, by rw [show S c 0 = m by omega]; exact qa_2_3⟩
      · refine q_iloadn (pc' := 11) 1 dX4_sortByPrice_10 rfl rfl ?_
        refine q_aloadn (pc' := 12) 0 dX4_sortByPrice_11 rfl rfl ?_
        refine q_iloadn (pc' := 13) 2 dX4_sortByPrice_12 rfl rfl ?_
        refine q_iconst (pc' := 14) dX4_sortByPrice_13 rfl ?_
        refine q_callVI (pc' := 17) dX4_sortByPrice_14 rfl lX4_40 iX4_get kO rfl (c_X4_get (by first | assumption | exact s_cO8 | exact s_cO11 | omega) (by first | assumption | exact s_cO8 | exact s_cO11 | omega) (by first | assumption | exact s_cO8 | exact s_cO11 | omega) (by first | assumption | exact s_cO8 | exact s_cO11 | omega) (by first | assumption | exact s_cO8 | exact s_cO11 | omega)) rfl rfl (Nat.le_of_ble_eq_true rfl) (Nat.le_of_ble_eq_true rfl) (Nat.le_of_ble_eq_true rfl) ?_
        rw [e9]
        refine q_imul (pc' := 18) dX4_sortByPrice_17 rfl ?_
        refine q_istoren (pc' := 19) (L' := [(3, q_i (s * (S (c + 1) (5 * m + 3)))), (0, q_r Γ c), (1, q_i s), (2, q_i m)]) dX4_sortByPrice_18 rfl rfl (by decide) rfl ?_
        refine q_iloadn (pc' := 20) 3 dX4_sortByPrice_19 rfl rfl ?_
        refine q_istore (pc' := 22) (L' := [(4, q_i m), (3, q_i (s * (S (c + 1) (5 * m + 3)))), (0, q_r Γ c), (1, q_i s), (2, q_i m)]) dX4_sortByPrice_20 rfl (by decide) rfl ?_
        have qlp_22 : ∀ (qn_22 : Nat) (S3 : q_S) (u : Int), (0 ≤ u) → (u ≤ m) → (∀ a, a ≠ c + 2 → S3 a = S a) → (∀ j, 0 ≤ j → j < u → S3 (c + 2) j = S2 (c + 2) j) → (∀ j, u < j → j ≤ m → S3 (c + 2) j = S2 (c + 2) (j - 1) ∧ s_vl S c s m < s_vl S c s (S2 (c + 2) (j - 1))) → (u.toNat) = qn_22 → q_Go Γ mX4_sortByPrice 1 0 0 22 [(0, q_r Γ c), (1, q_i s), (2, q_i m), (3, q_i (s * S (c + 1) (5 * m + 3))), (4, q_i u)] [] (KC, S3) (fun v w => v = none ∧ ∃ S2, w = (KC, S2) ∧ (∀ a, a ≠ c + 2 → S2 a = S a) ∧ s_so (s_vl S c s) (S2 (c + 2)) (S c 0)) := by
          intro qn_22
          induction qn_22 using Nat.strongRecOn with
          | ind qn_22 qih_22 =>
            intro S3 u qa_22_0 qa_22_1 qa_22_2 qa_22_3 qa_22_4 qhn_22
            subst qhn_22
            have d9 := qa_22_2 (c + 1) (by omega)
            have pm := s_sg hs (HP m (by omega) (by omega)).1 (HP m (by omega) (by omega)).2
            refine q_iload (pc' := 24) 4 dX4_sortByPrice_22 rfl rfl ?_
            refine q_if_le (tgt := 69) (pc' := 27) dX4_sortByPrice_24 rfl rfl (by first | assumption | exact s_cO8 | exact s_cO11 | omega) (fun qc_24 => ?_) (fun qc_24 => ?_)
            · refine q_aloadn (pc' := 70) 0 dX4_sortByPrice_69 rfl rfl ?_
              refine p_getR (pc' := 73) (f := c + 2) dX4_sortByPrice_70 rfl fX4_19 kO rfl ?_
              refine q_iload (pc' := 75) 4 dX4_sortByPrice_73 rfl rfl ?_
              refine q_iloadn (pc' := 76) 2 dX4_sortByPrice_75 rfl rfl ?_
              refine p_iast (pc' := 77) dX4_sortByPrice_76 rfl kT (by first | assumption | exact s_cO8 | exact s_cO11 | omega) (by first | assumption | exact s_cO8 | exact s_cO11 | omega) (by decide) (by first | assumption | exact s_cO8 | exact s_cO11 | omega) ?_
              refine q_iinc (pc' := 80) 2 (L' := [(2, q_i (m + 1)), (0, q_r Γ c), (1, q_i s), (3, q_i (s * S (c + 1) (5 * m + 3))), (4, q_i u)]) dX4_sortByPrice_77 rfl rfl (by decide) rfl ?_
              refine q_goto (pc' := 2) dX4_sortByPrice_80 rfl ?_
              refine p_sub [1, 2, 0] rfl ?_
              exact qih_2 _ (by omega) _ _ (by first | assumption | exact s_cO8 | exact s_cO11 | omega) (by first | assumption | exact s_cO8 | exact s_cO11 | omega) (by intro a ha; rw [q_up_ne ha]; exact qa_22_2 a ha) (by first | exact s_so_ins qa_2_3 (by omega) (by omega) (fun j x y => by rw [q_up_nz (by omega)]; exact qa_22_3 j x y) q_up_eq (fun j x y => by rw [q_up_nz (by omega)]; exact qa_22_4 j x y) (Or.inl (by omega)) | exact s_so_ins qa_2_3 (by omega) (by omega) (fun j x y => by rw [q_up_nz (by omega)]; exact qa_22_3 j x y) q_up_eq (fun j x y => by rw [q_up_nz (by omega)]; exact qa_22_4 j x y) (Or.inr (by have qe := ey37; unfold s_vl; rw [← qe]; omega))) rfl
            · refine q_iloadn (pc' := 28) 1 dX4_sortByPrice_27 rfl rfl ?_
              refine q_aloadn (pc' := 29) 0 dX4_sortByPrice_28 rfl rfl ?_
              refine q_aloadn (pc' := 30) 0 dX4_sortByPrice_29 rfl rfl ?_
              refine p_getR (pc' := 33) (f := c + 2) dX4_sortByPrice_30 rfl fX4_19 kO rfl ?_
              refine q_iload (pc' := 35) 4 dX4_sortByPrice_33 rfl rfl ?_
              refine q_iconst (pc' := 36) dX4_sortByPrice_35 rfl ?_
              refine q_isub (pc' := 37) dX4_sortByPrice_36 rfl ?_
              refine p_iald (pc' := 38) dX4_sortByPrice_37 rfl kT (by first | assumption | exact s_cO8 | exact s_cO11 | omega) (by first | assumption | exact s_cO8 | exact s_cO11 | omega) (by decide) (fun qy_37 eqy_37 rqy_37 => ?_)
              have ey37 : qy_37 = S2 (c + 2) (u - 1) := eqy_37.trans (qa_22_3 (u - 1) (by omega) (by omega))
              have ry37 := qa_2_3.1 (u - 1) (by omega) (by omega)
              rw [← ey37] at ry37
              have pu := s_sg hs (HP qy_37 (by omega) (by omega)).1 (HP qy_37 (by omega) (by omega)).2
              refine q_iconst (pc' := 39) dX4_sortByPrice_38 rfl ?_
              refine q_callVI (pc' := 42) dX4_sortByPrice_39 rfl lX4_40 iX4_get kO rfl (c_X4_get (by first | assumption | exact s_cO8 | exact s_cO11 | omega) (by first | assumption | exact s_cO8 | exact s_cO11 | omega) (by first | assumption | exact s_cO8 | exact s_cO11 | omega) (by first | assumption | exact s_cO8 | exact s_cO11 | omega) (by first | assumption | exact s_cO8 | exact s_cO11 | omega)) rfl rfl (Nat.le_of_ble_eq_true rfl) (Nat.le_of_ble_eq_true rfl) (Nat.le_of_ble_eq_true rfl) ?_
              rw [d9]
              refine q_imul (pc' := 43) dX4_sortByPrice_42 rfl ?_
              refine q_iloadn (pc' := 44) 3 dX4_sortByPrice_43 rfl rfl ?_
              refine q_icmp_le (tgt := 69) (pc' := 47) dX4_sortByPrice_44 rfl rfl (by first | assumption | exact s_cO8 | exact s_cO11 | omega) (by first | assumption | exact s_cO8 | exact s_cO11 | omega) (fun qc_44 => ?_) (fun qc_44 => ?_)
              · refine q_aloadn (pc' := 70) 0 dX4_sortByPrice_69 rfl rfl ?_
                refine p_getR (pc' := 73) (f := c + 2) dX4_sortByPrice_70 rfl fX4_19 kO rfl ?_
                refine q_iload (pc' := 75) 4 dX4_sortByPrice_73 rfl rfl ?_
                refine q_iloadn (pc' := 76) 2 dX4_sortByPrice_75 rfl rfl ?_
                refine p_iast (pc' := 77) dX4_sortByPrice_76 rfl kT (by first | assumption | exact s_cO8 | exact s_cO11 | omega) (by first | assumption | exact s_cO8 | exact s_cO11 | omega) (by decide) (by first | assumption | exact s_cO8 | exact s_cO11 | omega) ?_
                refine q_iinc (pc' := 80) 2 (L' := [(2, q_i (m + 1)), (0, q_r Γ c), (1, q_i s), (3, q_i (s * S (c + 1) (5 * m + 3))), (4, q_i u)]) dX4_sortByPrice_77 rfl rfl (by decide) rfl ?_
                refine q_goto (pc' := 2) dX4_sortByPrice_80 rfl ?_
                refine p_sub [1, 2, 0] rfl ?_
                exact qih_2 _ (by omega) _ _ (by first | assumption | exact s_cO8 | exact s_cO11 | omega) (by first | assumption | exact s_cO8 | exact s_cO11 | omega) (by intro a ha; rw [q_up_ne ha]; exact qa_22_2 a ha) (by first | exact s_so_ins qa_2_3 (by omega) (by omega) (fun j x y => by rw [q_up_nz (by omega)]; exact qa_22_3 j x y) q_up_eq (fun j x y => by rw [q_up_nz (by omega)]; exact qa_22_4 j x y) (Or.inl (by omega)) | exact s_so_ins qa_2_3 (by omega) (by omega) (fun j x y => by rw [q_up_nz (by omega)]; exact qa_22_3 j x y) q_up_eq (fun j x y => by rw [q_up_nz (by omega)]; exact qa_22_4 j x y) (Or.inr (by have qe := ey37; unfold s_vl; rw [← qe]; omega))) rfl
              · refine q_aloadn (pc' := 48) 0 dX4_sortByPrice_47 rfl rfl ?_
                refine p_getR (pc' := 51) (f := c + 2) dX4_sortByPrice_48 rfl fX4_19 kO rfl ?_
                refine q_iload (pc' := 53) 4 dX4_sortByPrice_51 rfl rfl ?_
                refine q_aloadn (pc' := 54) 0 dX4_sortByPrice_53 rfl rfl ?_
                refine p_getR (pc' := 57) (f := c + 2) dX4_sortByPrice_54 rfl fX4_19 kO rfl ?_
                refine q_iload (pc' := 59) 4 dX4_sortByPrice_57 rfl rfl ?_
                refine q_iconst (pc' := 60) dX4_sortByPrice_59 rfl ?_
                refine q_isub (pc' := 61) dX4_sortByPrice_60 rfl ?_
                refine p_iald (pc' := 62) dX4_sortByPrice_61 rfl kT (by first | assumption | exact s_cO8 | exact s_cO11 | omega) (by first | assumption | exact s_cO8 | exact s_cO11 | omega) (by decide) (fun qy_61 eqy_61 rqy_61 => ?_)
                refine p_iast (pc' := 63) dX4_sortByPrice_62 rfl kT (by first | assumption | exact s_cO8 | exact s_cO11 | omega) (by first | assumption | exact s_cO8 | exact s_cO11 | omega) (by decide) (by first | assumption | exact s_cO8 | exact s_cO11 | omega) ?_
                refine q_iinc (pc' := 66) 4 (L' := [(4, q_i (u + (-1))), (0, q_r Γ c), (1, q_i s), (2, q_i m), (3, q_i (s * S (c + 1) (5 * m + 3)))]) dX4_sortByPrice_63 rfl rfl (by decide) rfl ?_
                refine q_goto (pc' := 22) dX4_sortByPrice_66 rfl ?_
                refine p_sub [1, 2, 3, 4, 0] rfl ?_
                exact qih_22 _ (by omega) _ _ (by first | assumption | exact s_cO8 | exact s_cO11 | omega) (by first | assumption | exact s_cO8 | exact s_cO11 | omega) (by intro a ha; rw [q_up_ne ha]; exact qa_22_2 a ha) (by intro j x y; rw [q_up_nz (by omega)]; exact qa_22_3 j x (by omega)) (by intro j x y; rcases (show j = u ∨ u < j by omega) with g | g; (subst g; rw [q_up_eq]; have qe := ey37; refine ⟨eqy_61.trans (qa_22_3 _ (by omega) (by omega)), ?_⟩; unfold s_vl; rw [← qe]; omega); (rw [q_up_nz (by omega)]; exact qa_22_4 j g y)) rfl
        refine p_sub [2, 3, 4, 1, 0] rfl ?_
        exact qlp_22 _ _ _ (by first | assumption | exact s_cO8 | exact s_cO11 | omega) (by first | assumption | exact s_cO8 | exact s_cO11 | omega) (by assumption) (by intro j x y; rfl) (by intro j x y; omega) rfl
  refine p_sub [1, 2, 0] rfl ?_
  exact qlp_2 _ _ _ (by first | assumption | exact s_cO8 | exact s_cO11 | omega) (by first | assumption | exact s_cO8 | exact s_cO11 | omega) (by intro a ha; rfl) (by exact s_so_0) rfl
