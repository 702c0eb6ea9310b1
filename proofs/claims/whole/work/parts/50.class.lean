set_option maxRecDepth 20000 in
set_option maxHeartbeats 4000000 in
theorem c_J0_coder_7d493 {Γ : q_G} {K : List q_K} {S : q_S}   : q_Sp Γ mJ0_coder_7d493 0 0 0 [.ref (q_ad Γ 4)] (K, S) (q_ev (some (q_i (0))) (K, S)) := by
  show q_Go Γ mJ0_coder_7d493 0 0 0 0 [(0, .ref (q_ad Γ 4))] [] (K, S) (q_ev (some (q_i (0))) (K, S))
  refine q_scs (pc' := 3) dJ0_coder_7d493_0 rfl wJ0_38 ?_
  refine q_if_eq (tgt := 13) (pc' := 6) dJ0_coder_7d493_3 rfl rfl (by decide) (fun qc_3 => absurd qc_3 (by decide)) (fun qc_3 => ?_)
  refine q_aloadn (pc' := 7) 0 dJ0_coder_7d493_6 rfl rfl ?_
  refine q_scod (pc' := 10) dJ0_coder_7d493_7 rfl wJ0_15 ?_
  refine q_goto (pc' := 14) dJ0_coder_7d493_10 rfl ?_
  first | exact q_iret dJ0_coder_7d493_14 rfl rfl ⟨rfl, rfl⟩ | (exfalso; omega)
set_option maxRecDepth 20000 in
set_option maxHeartbeats 4000000 in
theorem c_J0_isLatin1_aae02 {Γ : q_G} {K : List q_K} {S : q_S}   : q_Sp Γ mJ0_isLatin1_aae02 0 0 0 [.ref (q_ad Γ 4)] (K, S) (q_ev (some (q_i (1))) (K, S)) := by
  show q_Go Γ mJ0_isLatin1_aae02 0 0 0 0 [(0, .ref (q_ad Γ 4))] [] (K, S) (q_ev (some (q_i (1))) (K, S))
  refine q_scs (pc' := 3) dJ0_isLatin1_aae02_0 rfl wJ0_38 ?_
  refine q_if_eq (tgt := 17) (pc' := 6) dJ0_isLatin1_aae02_3 rfl rfl (by decide) (fun qc_3 => absurd qc_3 (by decide)) (fun qc_3 => ?_)
  refine q_aloadn (pc' := 7) 0 dJ0_isLatin1_aae02_6 rfl rfl ?_
  refine q_scod (pc' := 10) dJ0_isLatin1_aae02_7 rfl wJ0_15 ?_
  refine q_if_ne (tgt := 17) (pc' := 13) dJ0_isLatin1_aae02_10 rfl rfl (by decide) (fun qc_10 => absurd qc_10 (by decide)) (fun qc_10 => ?_)
  refine q_iconst (pc' := 14) dJ0_isLatin1_aae02_13 rfl ?_
  refine q_goto (pc' := 18) dJ0_isLatin1_aae02_14 rfl ?_
  first | exact q_iret dJ0_isLatin1_aae02_18 rfl rfl ⟨rfl, rfl⟩ | (exfalso; omega)
set_option maxRecDepth 20000 in
set_option maxHeartbeats 4000000 in
theorem c_J0_length_8abf5 {Γ : q_G} {K : List q_K} {S : q_S}   : q_Sp Γ mJ0_length_8abf5 1 0 0 [.ref (q_ad Γ 4)] (K, S) (q_ev (some (q_i (5))) (K, S)) := by
  show q_Go Γ mJ0_length_8abf5 1 0 0 0 [(0, .ref (q_ad Γ 4))] [] (K, S) (q_ev (some (q_i (5))) (K, S))
  refine q_aloadn (pc' := 1) 0 dJ0_length_8abf5_0 rfl rfl ?_
  refine q_sval (pc' := 4) dJ0_length_8abf5_1 rfl wJ0_9 ?_
  refine q_slen (pc' := 5) dJ0_length_8abf5_4 rfl ?_
  refine q_aloadn (pc' := 6) 0 dJ0_length_8abf5_5 rfl rfl ?_
  refine q_callTI (pc' := 9) dJ0_length_8abf5_6 rfl tJ0_335 iJ0_coder_7d493 rfl (c_J0_coder_7d493 ) rfl rfl (Nat.le_of_ble_eq_true rfl) (Nat.le_of_ble_eq_true rfl) (Nat.le_of_ble_eq_true rfl) ?_
  refine q_ishr (pc' := 10) (z := 5) dJ0_length_8abf5_9 rfl (by decide) ?_
  first | exact q_iret dJ0_length_8abf5_10 rfl rfl ⟨rfl, rfl⟩ | (exfalso; omega)
set_option maxRecDepth 20000 in
set_option maxHeartbeats 4000000 in
theorem c_J1_canEncode_9a6ad {Γ : q_G} {K : List q_K} {S : q_S} {c : Int} (h0 : 0 ≤ c) (h1 : c ≤ 126) : q_Sp Γ mJ1_canEncode_9a6ad 0 0 0 [q_i c] (K, S) (q_ev (some (q_i (1))) (K, S)) := by
  show q_Go Γ mJ1_canEncode_9a6ad 0 0 0 0 [(0, q_i c)] [] (K, S) (q_ev (some (q_i (1))) (K, S))
  refine q_iloadn (pc' := 1) 0 dJ1_canEncode_9a6ad_0 rfl rfl ?_
  refine q_if_lt (tgt := 15) (pc' := 4) dJ1_canEncode_9a6ad_1 rfl rfl (by first | assumption | omega) (fun qc_1 => ?_) (fun qc_1 => ?_)
  · refine q_iconst (pc' := 16) dJ1_canEncode_9a6ad_15 rfl ?_
    first | exact q_iret dJ1_canEncode_9a6ad_16 rfl rfl ⟨rfl, rfl⟩ | (exfalso; omega)
  · refine q_iloadn (pc' := 5) 0 dJ1_canEncode_9a6ad_4 rfl rfl ?_
    refine q_sipush (pc' := 8) dJ1_canEncode_9a6ad_5 rfl rfl ?_
    refine q_icmp_gt (tgt := 15) (pc' := 11) dJ1_canEncode_9a6ad_8 rfl rfl (by first | assumption | omega) (by decide) (fun qc_8 => ?_) (fun qc_8 => ?_)
    · refine q_iconst (pc' := 16) dJ1_canEncode_9a6ad_15 rfl ?_
      first | exact q_iret dJ1_canEncode_9a6ad_16 rfl rfl ⟨rfl, rfl⟩ | (exfalso; omega)
    · refine q_iconst (pc' := 12) dJ1_canEncode_9a6ad_11 rfl ?_
      refine q_goto (pc' := 16) dJ1_canEncode_9a6ad_12 rfl ?_
      first | exact q_iret dJ1_canEncode_9a6ad_16 rfl rfl ⟨rfl, rfl⟩ | (exfalso; omega)
set_option maxRecDepth 20000 in
set_option maxHeartbeats 4000000 in
theorem c_J1_indexOfChar_4cfef {Γ : q_G} {K : List q_K} {S : q_S} {c : Int} (h0 : 0 ≤ c) (h1 : c ≤ 126) : q_Sp Γ mJ1_indexOfChar_4cfef 0 0 0 [.ref (q_ad Γ 5), q_i c, q_i 0, q_i 5] (K, S) (q_ev (some (q_i (s_ixc c))) (K, S)) := by
  show q_Go Γ mJ1_indexOfChar_4cfef 0 0 0 0 [(0, .ref (q_ad Γ 5)), (1, q_i c), (2, q_i 0), (3, q_i 5)] [] (K, S) (q_ev (some (q_i (s_ixc c))) (K, S))
  refine q_iloadn (pc' := 1) 1 dJ1_indexOfChar_4cfef_0 rfl rfl ?_
  refine q_i2b (pc' := 2) (z := c) dJ1_indexOfChar_4cfef_1 rfl (s_i2b (by omega) (by omega)) ?_
  refine q_istore (pc' := 4) (L' := [(4, q_i c), (0, .ref (q_ad Γ 5)), (1, q_i c), (2, q_i 0), (3, q_i 5)]) dJ1_indexOfChar_4cfef_2 rfl (by decide) rfl ?_
  refine q_iloadn (pc' := 5) 3 dJ1_indexOfChar_4cfef_4 rfl rfl ?_
  refine q_istore (pc' := 7) (L' := [(5, q_i 0), (4, q_i c), (0, .ref (q_ad Γ 5)), (1, q_i c), (2, q_i 0), (3, q_i 5)]) dJ1_indexOfChar_4cfef_5 rfl (by decide) rfl ?_
  have qlp_7 : ∀ (qn_7 : Nat) (k : Int), (0 ≤ k) → (k ≤ 5) → (∀ j, 0 ≤ j → j < k → s_kd j ≠ c) → ((5 - k).toNat) = qn_7 → q_Go Γ mJ1_indexOfChar_4cfef 0 0 0 7 [(0, .ref (q_ad Γ 5)), (3, q_i 5), (4, q_i c), (5, q_i k)] [] (K, S) (q_ev (some (q_i (s_ixc c))) (K, S)) := by
    intro qn_7
    induction qn_7 using Nat.strongRecOn with
    | ind qn_7 qih_7 =>
      intro k qa_7_0 qa_7_1 qa_7_2 qhn_7
      subst qhn_7
      refine q_iload (pc' := 9) 3 dJ1_indexOfChar_4cfef_7 rfl rfl ?_
      refine q_iloadn (pc' := 10) 1 dJ1_indexOfChar_4cfef_9 rfl rfl ?_
      refine q_icmp_ge (tgt := 31) (pc' := 13) dJ1_indexOfChar_4cfef_10 rfl rfl (by first | assumption | omega) (by decide) (fun qc_10 => ?_) (fun qc_10 => ?_)
      · have d0 := qa_7_2 0 (by omega) (by omega)
        have d1 := qa_7_2 1 (by omega) (by omega)
        have d2 := qa_7_2 2 (by omega) (by omega)
        have d3 := qa_7_2 3 (by omega) (by omega)
        have d4 := qa_7_2 4 (by omega) (by omega)
        rw [show s_kd 0 = 116 from rfl] at d0
        rw [show s_kd 1 = 119 from rfl] at d1
        rw [show s_kd 2 = 97 from rfl] at d2
        rw [show s_kd 3 = 98 from rfl] at d3
        rw [show s_kd 4 = 109 from rfl] at d4
        refine q_iconst (pc' := 32) dJ1_indexOfChar_4cfef_31 rfl ?_
        exact q_iret dJ1_indexOfChar_4cfef_32 rfl rfl ⟨congrArg (fun z => some (q_i z)) (by unfold s_ixc; omega), rfl⟩
      · refine q_aloadn (pc' := 14) 0 dJ1_indexOfChar_4cfef_13 rfl rfl ?_
        refine q_iload (pc' := 16) 3 dJ1_indexOfChar_4cfef_14 rfl rfl ?_
        refine q_sbald (pc' := 17) dJ1_indexOfChar_4cfef_16 rfl (by first | assumption | omega) (by first | assumption | omega) (fun qy_16 eqy_16 => ?_)
        have kd : s_kd k = if k = 0 then 116 else if k = 1 then 119 else if k = 2 then 97 else if k = 3 then 98 else 109 := rfl
        refine q_iload (pc' := 19) 2 dJ1_indexOfChar_4cfef_17 rfl rfl ?_
        refine q_icmp_ne (tgt := 25) (pc' := 22) dJ1_indexOfChar_4cfef_19 rfl rfl (by first | assumption | omega) (by first | assumption | omega) (fun qc_19 => ?_) (fun qc_19 => ?_)
        · refine q_iinc (pc' := 28) 3 (L' := [(5, q_i (k + 1)), (0, .ref (q_ad Γ 5)), (3, q_i 5), (4, q_i c)]) dJ1_indexOfChar_4cfef_25 rfl rfl (by decide) rfl ?_
          refine q_goto (pc' := 7) dJ1_indexOfChar_4cfef_28 rfl ?_
          refine p_sub [1, 2, 3, 0] rfl ?_
          exact qih_7 _ (by omega) _ (by first | assumption | omega) (by first | assumption | omega) (by intro j x y; rcases (show j < k ∨ j = k by omega) with g | g; exact qa_7_2 j x g; (subst g; omega)) rfl
        · refine q_iload (pc' := 24) 3 dJ1_indexOfChar_4cfef_22 rfl rfl ?_
          exact q_iret dJ1_indexOfChar_4cfef_24 rfl rfl ⟨congrArg (fun z => some (q_i z)) (by unfold s_ixc; omega), rfl⟩
  refine p_sub [2, 5, 1, 0] rfl ?_
  exact qlp_7 _ _ (by first | assumption | omega) (by first | assumption | omega) (by intro j x y; omega) rfl
set_option maxRecDepth 20000 in
set_option maxHeartbeats 4000000 in
theorem c_J1_indexOf_4cfef {Γ : q_G} {K : List q_K} {S : q_S} {c : Int} (h0 : 0 ≤ c) (h1 : c ≤ 126) : q_Sp Γ mJ1_indexOf_4cfef 1 0 0 [.ref (q_ad Γ 5), q_i c, q_i 0, q_i 5] (K, S) (q_ev (some (q_i (s_ixc c))) (K, S)) := by
  show q_Go Γ mJ1_indexOf_4cfef 1 0 0 0 [(0, .ref (q_ad Γ 5)), (1, q_i c), (2, q_i 0), (3, q_i 5)] [] (K, S) (q_ev (some (q_i (s_ixc c))) (K, S))
  refine q_iloadn (pc' := 1) 1 dJ1_indexOf_4cfef_0 rfl rfl ?_
  refine q_callSI (pc' := 4) dJ1_indexOf_4cfef_1 rfl lJ1_88 iJ1_canEncode_9a6ad (c_J1_canEncode_9a6ad (by first | assumption | omega) (by first | assumption | omega)) rfl rfl (Nat.le_of_ble_eq_true rfl) (Nat.le_of_ble_eq_true rfl) (Nat.le_of_ble_eq_true rfl) ?_
  refine q_if_ne (tgt := 9) (pc' := 7) dJ1_indexOf_4cfef_4 rfl rfl (by decide) (fun qc_4 => ?_) (fun qc_4 => absurd qc_4 (by decide))
  refine q_iloadn (pc' := 10) 2 dJ1_indexOf_4cfef_9 rfl rfl ?_
  refine q_iconst (pc' := 11) dJ1_indexOf_4cfef_10 rfl ?_
  refine p_max (pc' := 14) dJ1_indexOf_4cfef_11 rfl wJ1_92 (Nat.le_of_ble_eq_true rfl) (Nat.le_of_ble_eq_true rfl) (by first | assumption | omega) (by first | assumption | omega) (fun qy_11 eqy_11 => ?_)
  rw [show qy_11 = 0 by omega]
  refine q_istoren (pc' := 15) (L' := [(2, q_i 0), (0, .ref (q_ad Γ 5)), (1, q_i c), (3, q_i 5)]) dJ1_indexOf_4cfef_14 rfl rfl (by decide) rfl ?_
  refine q_iloadn (pc' := 16) 3 dJ1_indexOf_4cfef_15 rfl rfl ?_
  refine q_aloadn (pc' := 17) 1 dJ1_indexOf_4cfef_16 rfl rfl ?_
  refine q_slen (pc' := 18) dJ1_indexOf_4cfef_17 rfl ?_
  refine p_min (pc' := 21) dJ1_indexOf_4cfef_18 rfl wJ1_38 (Nat.le_of_ble_eq_true rfl) (Nat.le_of_ble_eq_true rfl) (by first | assumption | omega) (by first | assumption | omega) (fun qy_18 eqy_18 => ?_)
  rw [show qy_18 = 5 by omega]
  refine q_istoren (pc' := 22) (L' := [(3, q_i 5), (2, q_i 0), (0, .ref (q_ad Γ 5)), (1, q_i c)]) dJ1_indexOf_4cfef_21 rfl rfl (by decide) rfl ?_
  refine q_iloadn (pc' := 23) 1 dJ1_indexOf_4cfef_22 rfl rfl ?_
  refine q_iloadn (pc' := 24) 0 dJ1_indexOf_4cfef_23 rfl rfl ?_
  refine q_icmp_lt (tgt := 29) (pc' := 27) dJ1_indexOf_4cfef_24 rfl rfl (by decide) (by decide) (fun qc_24 => ?_) (fun qc_24 => absurd qc_24 (by decide))
  refine q_aloadn (pc' := 30) 2 dJ1_indexOf_4cfef_29 rfl rfl ?_
  refine q_iloadn (pc' := 31) 3 dJ1_indexOf_4cfef_30 rfl rfl ?_
  refine q_iloadn (pc' := 32) 1 dJ1_indexOf_4cfef_31 rfl rfl ?_
  refine q_iloadn (pc' := 33) 0 dJ1_indexOf_4cfef_32 rfl rfl ?_
  refine q_callSI (pc' := 36) dJ1_indexOf_4cfef_33 rfl lJ1_95 iJ1_indexOfChar_4cfef (c_J1_indexOfChar_4cfef (by first | assumption | omega) (by first | assumption | omega)) rfl rfl (Nat.le_of_ble_eq_true rfl) (Nat.le_of_ble_eq_true rfl) (Nat.le_of_ble_eq_true rfl) ?_
  first | exact q_iret dJ1_indexOf_4cfef_36 rfl rfl ⟨rfl, rfl⟩ | (exfalso; omega)
set_option maxRecDepth 20000 in
set_option maxHeartbeats 4000000 in
theorem c_J0_indexOf_7cf53 {Γ : q_G} {K : List q_K} {S : q_S} {c : Int} (h0 : 0 ≤ c) (h1 : c ≤ 126) : q_Sp Γ mJ0_indexOf_7cf53 2 0 0 [.ref (q_ad Γ 4), q_i c, q_i 0] (K, S) (q_ev (some (q_i (s_ixc c))) (K, S)) := by
  show q_Go Γ mJ0_indexOf_7cf53 2 0 0 0 [(0, .ref (q_ad Γ 4)), (1, q_i c), (2, q_i 0)] [] (K, S) (q_ev (some (q_i (s_ixc c))) (K, S))
  refine q_aloadn (pc' := 1) 0 dJ0_indexOf_7cf53_0 rfl rfl ?_
  refine q_callTI (pc' := 4) dJ0_indexOf_7cf53_1 rfl tJ0_492 iJ0_isLatin1_aae02 rfl (c_J0_isLatin1_aae02 ) rfl rfl (Nat.le_of_ble_eq_true rfl) (Nat.le_of_ble_eq_true rfl) (Nat.le_of_ble_eq_true rfl) ?_
  refine q_if_eq (tgt := 23) (pc' := 7) dJ0_indexOf_7cf53_4 rfl rfl (by decide) (fun qc_4 => absurd qc_4 (by decide)) (fun qc_4 => ?_)
  refine q_aloadn (pc' := 8) 0 dJ0_indexOf_7cf53_7 rfl rfl ?_
  refine q_sval (pc' := 11) dJ0_indexOf_7cf53_8 rfl wJ0_9 ?_
  refine q_iloadn (pc' := 12) 1 dJ0_indexOf_7cf53_11 rfl rfl ?_
  refine q_iloadn (pc' := 13) 2 dJ0_indexOf_7cf53_12 rfl rfl ?_
  refine q_aloadn (pc' := 14) 0 dJ0_indexOf_7cf53_13 rfl rfl ?_
  refine q_callTI (pc' := 17) dJ0_indexOf_7cf53_14 rfl tJ0_505 iJ0_length_8abf5 rfl (c_J0_length_8abf5 ) rfl rfl (Nat.le_of_ble_eq_true rfl) (Nat.le_of_ble_eq_true rfl) (Nat.le_of_ble_eq_true rfl) ?_
  refine q_callSI (pc' := 20) dJ0_indexOf_7cf53_17 rfl lJ0_637 iJ1_indexOf_4cfef (c_J1_indexOf_4cfef (by first | assumption | omega) (by first | assumption | omega)) rfl rfl (Nat.le_of_ble_eq_true rfl) (Nat.le_of_ble_eq_true rfl) (Nat.le_of_ble_eq_true rfl) ?_
  refine q_goto (pc' := 36) dJ0_indexOf_7cf53_20 rfl ?_
  first | exact q_iret dJ0_indexOf_7cf53_36 rfl rfl ⟨rfl, rfl⟩ | (exfalso; omega)
set_option maxRecDepth 20000 in
set_option maxHeartbeats 4000000 in
theorem c_J0_indexOf_0f7a4 {Γ : q_G} {K : List q_K} {S : q_S} {c : Int} (h0 : 0 ≤ c) (h1 : c ≤ 126) : q_Sp Γ mJ0_indexOf_0f7a4 3 0 0 [.ref (q_ad Γ 4), q_i c] (K, S) (q_ev (some (q_i (s_ixc c))) (K, S)) := by
  show q_Go Γ mJ0_indexOf_0f7a4 3 0 0 0 [(0, .ref (q_ad Γ 4)), (1, q_i c)] [] (K, S) (q_ev (some (q_i (s_ixc c))) (K, S))
  refine q_aloadn (pc' := 1) 0 dJ0_indexOf_0f7a4_0 rfl rfl ?_
  refine q_iloadn (pc' := 2) 1 dJ0_indexOf_0f7a4_1 rfl rfl ?_
  refine q_iconst (pc' := 3) dJ0_indexOf_0f7a4_2 rfl ?_
  refine q_callTI (pc' := 6) dJ0_indexOf_0f7a4_3 rfl tJ0_633 iJ0_indexOf_7cf53 rfl (c_J0_indexOf_7cf53 (by first | assumption | omega) (by first | assumption | omega)) rfl rfl (Nat.le_of_ble_eq_true rfl) (Nat.le_of_ble_eq_true rfl) (Nat.le_of_ble_eq_true rfl) ?_
  first | exact q_iret dJ0_indexOf_0f7a4_6 rfl rfl ⟨rfl, rfl⟩ | (exfalso; omega)
