set_option maxRecDepth 20000 in
set_option maxHeartbeats 4000000 in
theorem c_X9_placeOfBid {Γ : q_G} {S : q_S} {i : Int} (ok : s_ok (S 151)) (i0 : 0 ≤ i) (i1 : i < 10) : q_Sp Γ mX9_placeOfBid 1 0 0 [q_r Γ 150, q_i i] (KC, S) (q_ev (some (q_i (s_pob (S 151) i))) (KC, S)) := by
  show q_Go Γ mX9_placeOfBid 1 0 0 0 [(0, q_r Γ 150), (1, q_i i)] [] (KC, S) (q_ev (some (q_i (s_pob (S 151) i))) (KC, S))
  have c4 := ok.2.2.2.1
  have pi := s_bd_b ok i0 i1
  refine q_iconst (pc' := 1) dX9_placeOfBid_0 rfl ?_
  refine q_istoren (pc' := 2) (L' := [(2, q_i 0), (0, q_r Γ 150), (1, q_i i)]) dX9_placeOfBid_1 rfl rfl (by decide) rfl ?_
  refine q_iconst (pc' := 3) dX9_placeOfBid_2 rfl ?_
  refine q_istoren (pc' := 4) (L' := [(3, q_i 0), (2, q_i 0), (0, q_r Γ 150), (1, q_i i)]) dX9_placeOfBid_3 rfl rfl (by decide) rfl ?_
  have qlp_4 : ∀ (qn_4 : Nat) (z k : Int), (0 ≤ k) → (k ≤ S 151 4) → (z = q_sum (fun k => q_B (s_bd (S 151) i 3 < s_bd (S 151) k 3 ∨ (s_bd (S 151) k 3 = s_bd (S 151) i 3 ∧ k < i))) k.toNat) → ((10 - k).toNat) = qn_4 → q_Go Γ mX9_placeOfBid 1 0 0 4 [(0, q_r Γ 150), (1, q_i i), (2, q_i z), (3, q_i k)] [] (KC, S) (q_ev (some (q_i (s_pob (S 151) i))) (KC, S)) := by
    intro qn_4
    induction qn_4 using Nat.strongRecOn with
    | ind qn_4 qih_4 =>
      intro z k qa_4_0 qa_4_1 qa_4_2 qhn_4
      subst qhn_4
      refine q_iloadn (pc' := 5) 3 dX9_placeOfBid_4 rfl rfl ?_
      refine q_aloadn (pc' := 6) 0 dX9_placeOfBid_5 rfl rfl ?_
      refine p_getR (pc' := 9) (f := 151) dX9_placeOfBid_6 rfl fX9_7 kc150 rfl ?_
      refine q_iconst (pc' := 10) dX9_placeOfBid_9 rfl ?_
      refine p_iald (pc' := 11) dX9_placeOfBid_10 rfl kc151 (by first | assumption | omega) (by first | assumption | omega) (by decide) (fun qy_10 eqy_10 rqy_10 => ?_)
      refine q_icmp_ge (tgt := 58) (pc' := 14) dX9_placeOfBid_11 rfl rfl (by first | assumption | omega) (by first | assumption | omega) (fun qc_11 => ?_) (fun qc_11 => ?_)
      · refine q_iloadn (pc' := 59) 2 dX9_placeOfBid_58 rfl rfl ?_
        refine p_iret dX9_placeOfBid_59 rfl ?_ ?_
        · rw [qa_4_2, show k = S 151 4 by omega]; rfl
        · rfl
      · have pk := s_bd_b ok (i := k) (by omega) (by omega)
        refine q_aloadn (pc' := 15) 0 dX9_placeOfBid_14 rfl rfl ?_
        refine q_iloadn (pc' := 16) 3 dX9_placeOfBid_15 rfl rfl ?_
        refine q_iconst (pc' := 17) dX9_placeOfBid_16 rfl ?_
        refine q_callVI (pc' := 20) dX9_placeOfBid_17 rfl lX9_145 iX9_bidPart kc150 rfl (c_X9_bidPart (by first | assumption | omega) (by first | assumption | omega)) rfl rfl (Nat.le_of_ble_eq_true rfl) (Nat.le_of_ble_eq_true rfl) (Nat.le_of_ble_eq_true rfl) ?_
        refine q_aloadn (pc' := 21) 0 dX9_placeOfBid_20 rfl rfl ?_
        refine q_iloadn (pc' := 22) 1 dX9_placeOfBid_21 rfl rfl ?_
        refine q_iconst (pc' := 23) dX9_placeOfBid_22 rfl ?_
        refine q_callVI (pc' := 26) dX9_placeOfBid_23 rfl lX9_145 iX9_bidPart kc150 rfl (c_X9_bidPart (by first | assumption | omega) (by first | assumption | omega)) rfl rfl (Nat.le_of_ble_eq_true rfl) (Nat.le_of_ble_eq_true rfl) (Nat.le_of_ble_eq_true rfl) ?_
        refine q_isub (pc' := 27) dX9_placeOfBid_26 rfl ?_
        refine q_istore (pc' := 29) (L' := [(4, q_i ((s_bd (S 151) k 3) - (s_bd (S 151) i 3))), (0, q_r Γ 150), (1, q_i i), (2, q_i z), (3, q_i k)]) dX9_placeOfBid_27 rfl (by decide) rfl ?_
        refine q_iloadn (pc' := 30) 3 dX9_placeOfBid_29 rfl rfl ?_
        refine q_iload (pc' := 32) 0 dX9_placeOfBid_30 rfl rfl ?_
        refine q_if_gt (tgt := 45) (pc' := 35) dX9_placeOfBid_32 rfl rfl (by first | assumption | omega) (fun qc_32 => ?_) (fun qc_32 => ?_)
        · refine q_iconst (pc' := 46) dX9_placeOfBid_45 rfl ?_
          refine q_goto (pc' := 50) dX9_placeOfBid_46 rfl ?_
          refine q_iadd (pc' := 51) dX9_placeOfBid_50 rfl ?_
          refine q_istoren (pc' := 52) (L' := [(2, q_i (z + 1)), (4, q_i ((s_bd (S 151) k 3) - (s_bd (S 151) i 3))), (0, q_r Γ 150), (1, q_i i), (3, q_i k)]) dX9_placeOfBid_51 rfl rfl (by decide) rfl ?_
          refine q_iinc (pc' := 55) 4 (L' := [(3, q_i (k + 1)), (2, q_i (z + 1)), (4, q_i ((s_bd (S 151) k 3) - (s_bd (S 151) i 3))), (0, q_r Γ 150), (1, q_i i)]) dX9_placeOfBid_52 rfl rfl (by decide) rfl ?_
          refine q_goto (pc' := 4) dX9_placeOfBid_55 rfl ?_
          refine p_sub [3, 4, 1, 0] rfl ?_
          exact qih_4 _ (by omega) _ _ (by first | assumption | omega) (by first | assumption | omega) (by rw [q_sum_s (by omega), ← qa_4_2]; first | exact congrArg (z + ·) (q_B_1 (by omega)) | exact congrArg (z + ·) (q_B_0 (by omega))) rfl
        · refine q_iload (pc' := 37) 0 dX9_placeOfBid_35 rfl rfl ?_
          refine q_if_ne (tgt := 49) (pc' := 40) dX9_placeOfBid_37 rfl rfl (by first | assumption | omega) (fun qc_37 => ?_) (fun qc_37 => ?_)
          · refine q_iconst (pc' := 50) dX9_placeOfBid_49 rfl ?_
            refine q_iadd (pc' := 51) dX9_placeOfBid_50 rfl ?_
            refine q_istoren (pc' := 52) (L' := [(2, q_i (z + 0)), (4, q_i ((s_bd (S 151) k 3) - (s_bd (S 151) i 3))), (0, q_r Γ 150), (1, q_i i), (3, q_i k)]) dX9_placeOfBid_51 rfl rfl (by decide) rfl ?_
            refine q_iinc (pc' := 55) 4 (L' := [(3, q_i (k + 1)), (2, q_i (z + 0)), (4, q_i ((s_bd (S 151) k 3) - (s_bd (S 151) i 3))), (0, q_r Γ 150), (1, q_i i)]) dX9_placeOfBid_52 rfl rfl (by decide) rfl ?_
            refine q_goto (pc' := 4) dX9_placeOfBid_55 rfl ?_
            refine p_sub [3, 4, 1, 0] rfl ?_
            exact qih_4 _ (by omega) _ _ (by first | assumption | omega) (by first | assumption | omega) (by rw [q_sum_s (by omega), ← qa_4_2]; first | exact congrArg (z + ·) (q_B_1 (by omega)) | exact congrArg (z + ·) (q_B_0 (by omega))) rfl
          · refine q_iloadn (pc' := 41) 4 dX9_placeOfBid_40 rfl rfl ?_
            refine q_iloadn (pc' := 42) 2 dX9_placeOfBid_41 rfl rfl ?_
            refine q_icmp_ge (tgt := 49) (pc' := 45) dX9_placeOfBid_42 rfl rfl (by first | assumption | omega) (by first | assumption | omega) (fun qc_42 => ?_) (fun qc_42 => ?_)
            · refine q_iconst (pc' := 50) dX9_placeOfBid_49 rfl ?_
              refine q_iadd (pc' := 51) dX9_placeOfBid_50 rfl ?_
              refine q_istoren (pc' := 52) (L' := [(2, q_i (z + 0)), (4, q_i ((s_bd (S 151) k 3) - (s_bd (S 151) i 3))), (0, q_r Γ 150), (1, q_i i), (3, q_i k)]) dX9_placeOfBid_51 rfl rfl (by decide) rfl ?_
              refine q_iinc (pc' := 55) 4 (L' := [(3, q_i (k + 1)), (2, q_i (z + 0)), (4, q_i ((s_bd (S 151) k 3) - (s_bd (S 151) i 3))), (0, q_r Γ 150), (1, q_i i)]) dX9_placeOfBid_52 rfl rfl (by decide) rfl ?_
              refine q_goto (pc' := 4) dX9_placeOfBid_55 rfl ?_
              refine p_sub [3, 4, 1, 0] rfl ?_
              exact qih_4 _ (by omega) _ _ (by first | assumption | omega) (by first | assumption | omega) (by rw [q_sum_s (by omega), ← qa_4_2]; first | exact congrArg (z + ·) (q_B_1 (by omega)) | exact congrArg (z + ·) (q_B_0 (by omega))) rfl
            · refine q_iconst (pc' := 46) dX9_placeOfBid_45 rfl ?_
              refine q_goto (pc' := 50) dX9_placeOfBid_46 rfl ?_
              refine q_iadd (pc' := 51) dX9_placeOfBid_50 rfl ?_
              refine q_istoren (pc' := 52) (L' := [(2, q_i (z + 1)), (4, q_i ((s_bd (S 151) k 3) - (s_bd (S 151) i 3))), (0, q_r Γ 150), (1, q_i i), (3, q_i k)]) dX9_placeOfBid_51 rfl rfl (by decide) rfl ?_
              refine q_iinc (pc' := 55) 4 (L' := [(3, q_i (k + 1)), (2, q_i (z + 1)), (4, q_i ((s_bd (S 151) k 3) - (s_bd (S 151) i 3))), (0, q_r Γ 150), (1, q_i i)]) dX9_placeOfBid_52 rfl rfl (by decide) rfl ?_
              refine q_goto (pc' := 4) dX9_placeOfBid_55 rfl ?_
              refine p_sub [3, 4, 1, 0] rfl ?_
              exact qih_4 _ (by omega) _ _ (by first | assumption | omega) (by first | assumption | omega) (by rw [q_sum_s (by omega), ← qa_4_2]; first | exact congrArg (z + ·) (q_B_1 (by omega)) | exact congrArg (z + ·) (q_B_0 (by omega))) rfl
  refine p_sub [2, 3, 1, 0] rfl ?_
  exact qlp_4 _ _ _ (by first | assumption | omega) (by first | assumption | omega) (by rfl) rfl
set_option maxRecDepth 20000 in
set_option maxHeartbeats 4000000 in
theorem c_X9_nextAsk {Γ : q_G} {S : q_S} {b : Int} (ok : s_ok (S 151)) (b0 : 0 ≤ b) (b1 : b < 10) : q_Sp Γ mX9_nextAsk 1 0 0 [q_r Γ 150, q_i b] (KC, S) (q_ev (some (q_i (s_na (S 151) b))) (KC, S)) := by
  show q_Go Γ mX9_nextAsk 1 0 0 0 [(0, q_r Γ 150), (1, q_i b)] [] (KC, S) (q_ev (some (q_i (s_na (S 151) b))) (KC, S))
  have c3 := ok.2.2.1
  have pb := s_bd_b ok b0 b1
  refine q_bipush (pc' := 2) dX9_nextAsk_0 rfl rfl ?_
  refine q_istoren (pc' := 3) (L' := [(2, q_i (-6)), (0, q_r Γ 150), (1, q_i b)]) dX9_nextAsk_2 rfl rfl (by decide) rfl ?_
  refine q_iconst (pc' := 4) dX9_nextAsk_3 rfl ?_
  refine q_istoren (pc' := 5) (L' := [(3, q_i 0), (2, q_i (-6)), (0, q_r Γ 150), (1, q_i b)]) dX9_nextAsk_4 rfl rfl (by decide) rfl ?_
  have qlp_5 : ∀ (qn_5 : Nat) (best k : Int), (0 ≤ k) → (k ≤ S 151 3) → (best = s_naN (S 151) b k.toNat) → ((10 - k).toNat) = qn_5 → q_Go Γ mX9_nextAsk 1 0 0 5 [(0, q_r Γ 150), (1, q_i b), (2, q_i best), (3, q_i k)] [] (KC, S) (q_ev (some (q_i (s_na (S 151) b))) (KC, S)) := by
    intro qn_5
    induction qn_5 using Nat.strongRecOn with
    | ind qn_5 qih_5 =>
      intro best k qa_5_0 qa_5_1 qa_5_2 qhn_5
      subst qhn_5
      have bb := s_naN_b (φ := S 151) (b := b) k.toNat
      rw [← qa_5_2] at bb
      refine q_iloadn (pc' := 6) 3 dX9_nextAsk_5 rfl rfl ?_
      refine q_aloadn (pc' := 7) 0 dX9_nextAsk_6 rfl rfl ?_
      refine p_getR (pc' := 10) (f := 151) dX9_nextAsk_7 rfl fX9_7 kc150 rfl ?_
      refine q_iconst (pc' := 11) dX9_nextAsk_10 rfl ?_
      refine p_iald (pc' := 12) dX9_nextAsk_11 rfl kc151 (by first | assumption | omega) (by first | assumption | omega) (by decide) (fun qy_11 eqy_11 rqy_11 => ?_)
      refine q_icmp_ge (tgt := 114) (pc' := 15) dX9_nextAsk_12 rfl rfl (by first | assumption | omega) (by first | assumption | omega) (fun qc_12 => ?_) (fun qc_12 => ?_)
      · refine q_iloadn (pc' := 115) 2 dX9_nextAsk_114 rfl rfl ?_
        refine p_iret dX9_nextAsk_115 rfl ?_ ?_
        · rw [qa_5_2, show k = S 151 3 by omega]; rfl
        · rfl
      · have pk := s_as_b ok (i := k) (by omega) (by omega)
        refine q_aloadn (pc' := 16) 0 dX9_nextAsk_15 rfl rfl ?_
        refine q_iloadn (pc' := 17) 3 dX9_nextAsk_16 rfl rfl ?_
        refine q_iconst (pc' := 18) dX9_nextAsk_17 rfl ?_
        refine q_callVI (pc' := 21) dX9_nextAsk_18 rfl lX9_148 iX9_askPart kc150 rfl (c_X9_askPart (by first | assumption | omega) (by first | assumption | omega)) rfl rfl (Nat.le_of_ble_eq_true rfl) (Nat.le_of_ble_eq_true rfl) (Nat.le_of_ble_eq_true rfl) ?_
        refine q_aloadn (pc' := 22) 0 dX9_nextAsk_21 rfl rfl ?_
        refine q_iloadn (pc' := 23) 1 dX9_nextAsk_22 rfl rfl ?_
        refine q_iconst (pc' := 24) dX9_nextAsk_23 rfl ?_
        refine q_callVI (pc' := 27) dX9_nextAsk_24 rfl lX9_145 iX9_bidPart kc150 rfl (c_X9_bidPart (by first | assumption | omega) (by first | assumption | omega)) rfl rfl (Nat.le_of_ble_eq_true rfl) (Nat.le_of_ble_eq_true rfl) (Nat.le_of_ble_eq_true rfl) ?_
        refine q_icmp_ne (tgt := 73) (pc' := 30) dX9_nextAsk_27 rfl rfl (by first | assumption | omega) (by first | assumption | omega) (fun qc_27 => ?_) (fun qc_27 => ?_)
        · refine q_iconst (pc' := 74) dX9_nextAsk_73 rfl ?_
          refine q_istore (pc' := 76) (L' := [(4, q_i 0), (0, q_r Γ 150), (1, q_i b), (2, q_i best), (3, q_i k)]) dX9_nextAsk_74 rfl (by decide) rfl ?_
          refine q_iload (pc' := 78) 0 dX9_nextAsk_76 rfl rfl ?_
          refine q_if_eq (tgt := 106) (pc' := 81) dX9_nextAsk_78 rfl rfl (by decide) (fun qc_78 => ?_) (fun qc_78 => absurd qc_78 (by decide))
          refine q_iloadn (pc' := 107) 3 dX9_nextAsk_106 rfl rfl ?_
          refine q_istoren (pc' := 108) (L' := [(2, q_i best), (4, q_i 0), (0, q_r Γ 150), (1, q_i b), (3, q_i k)]) dX9_nextAsk_107 rfl rfl (by decide) rfl ?_
          refine q_iinc (pc' := 111) 4 (L' := [(3, q_i (k + 1)), (2, q_i best), (4, q_i 0), (0, q_r Γ 150), (1, q_i b)]) dX9_nextAsk_108 rfl rfl (by decide) rfl ?_
          refine q_goto (pc' := 5) dX9_nextAsk_111 rfl ?_
          refine p_sub [3, 4, 1, 0] rfl ?_
          exact qih_5 _ (by omega) _ _ (by first | assumption | omega) (by first | assumption | omega) (by rw [s_naN_s (by omega), ← qa_5_2]; first | exact (q_if_t ⟨⟨by omega, by omega, by omega, by omega⟩, by omega⟩).symm | exact (q_if_f (fun q => by obtain ⟨⟨q1, q2, q3, q4⟩, q5⟩ := q; omega)).symm) rfl
        · refine q_aloadn (pc' := 31) 0 dX9_nextAsk_30 rfl rfl ?_
          refine q_iloadn (pc' := 32) 3 dX9_nextAsk_31 rfl rfl ?_
          refine q_iconst (pc' := 33) dX9_nextAsk_32 rfl ?_
          refine q_callVI (pc' := 36) dX9_nextAsk_33 rfl lX9_148 iX9_askPart kc150 rfl (c_X9_askPart (by first | assumption | omega) (by first | assumption | omega)) rfl rfl (Nat.le_of_ble_eq_true rfl) (Nat.le_of_ble_eq_true rfl) (Nat.le_of_ble_eq_true rfl) ?_
          refine q_aloadn (pc' := 37) 0 dX9_nextAsk_36 rfl rfl ?_
          refine q_iloadn (pc' := 38) 1 dX9_nextAsk_37 rfl rfl ?_
          refine q_iconst (pc' := 39) dX9_nextAsk_38 rfl ?_
          refine q_callVI (pc' := 42) dX9_nextAsk_39 rfl lX9_145 iX9_bidPart kc150 rfl (c_X9_bidPart (by first | assumption | omega) (by first | assumption | omega)) rfl rfl (Nat.le_of_ble_eq_true rfl) (Nat.le_of_ble_eq_true rfl) (Nat.le_of_ble_eq_true rfl) ?_
          refine q_icmp_ne (tgt := 73) (pc' := 45) dX9_nextAsk_42 rfl rfl (by first | assumption | omega) (by first | assumption | omega) (fun qc_42 => ?_) (fun qc_42 => ?_)
          · refine q_iconst (pc' := 74) dX9_nextAsk_73 rfl ?_
            refine q_istore (pc' := 76) (L' := [(4, q_i 0), (0, q_r Γ 150), (1, q_i b), (2, q_i best), (3, q_i k)]) dX9_nextAsk_74 rfl (by decide) rfl ?_
            refine q_iload (pc' := 78) 0 dX9_nextAsk_76 rfl rfl ?_
            refine q_if_eq (tgt := 106) (pc' := 81) dX9_nextAsk_78 rfl rfl (by decide) (fun qc_78_1 => ?_) (fun qc_78_1 => absurd qc_78_1 (by decide))
            refine q_iloadn (pc' := 107) 3 dX9_nextAsk_106 rfl rfl ?_
            refine q_istoren (pc' := 108) (L' := [(2, q_i best), (4, q_i 0), (0, q_r Γ 150), (1, q_i b), (3, q_i k)]) dX9_nextAsk_107 rfl rfl (by decide) rfl ?_
            refine q_iinc (pc' := 111) 4 (L' := [(3, q_i (k + 1)), (2, q_i best), (4, q_i 0), (0, q_r Γ 150), (1, q_i b)]) dX9_nextAsk_108 rfl rfl (by decide) rfl ?_
            refine q_goto (pc' := 5) dX9_nextAsk_111 rfl ?_
            refine p_sub [3, 4, 1, 0] rfl ?_
            exact qih_5 _ (by omega) _ _ (by first | assumption | omega) (by first | assumption | omega) (by rw [s_naN_s (by omega), ← qa_5_2]; first | exact (q_if_t ⟨⟨by omega, by omega, by omega, by omega⟩, by omega⟩).symm | exact (q_if_f (fun q => by obtain ⟨⟨q1, q2, q3, q4⟩, q5⟩ := q; omega)).symm) rfl
          · refine q_aloadn (pc' := 46) 0 dX9_nextAsk_45 rfl rfl ?_
            refine q_iloadn (pc' := 47) 3 dX9_nextAsk_46 rfl rfl ?_
            refine q_iconst (pc' := 48) dX9_nextAsk_47 rfl ?_
            refine q_callVI (pc' := 51) dX9_nextAsk_48 rfl lX9_148 iX9_askPart kc150 rfl (c_X9_askPart (by first | assumption | omega) (by first | assumption | omega)) rfl rfl (Nat.le_of_ble_eq_true rfl) (Nat.le_of_ble_eq_true rfl) (Nat.le_of_ble_eq_true rfl) ?_
            refine q_aloadn (pc' := 52) 0 dX9_nextAsk_51 rfl rfl ?_
            refine q_iloadn (pc' := 53) 1 dX9_nextAsk_52 rfl rfl ?_
            refine q_iconst (pc' := 54) dX9_nextAsk_53 rfl ?_
            refine q_callVI (pc' := 57) dX9_nextAsk_54 rfl lX9_145 iX9_bidPart kc150 rfl (c_X9_bidPart (by first | assumption | omega) (by first | assumption | omega)) rfl rfl (Nat.le_of_ble_eq_true rfl) (Nat.le_of_ble_eq_true rfl) (Nat.le_of_ble_eq_true rfl) ?_
            refine q_icmp_gt (tgt := 73) (pc' := 60) dX9_nextAsk_57 rfl rfl (by first | assumption | omega) (by first | assumption | omega) (fun qc_57 => ?_) (fun qc_57 => ?_)
            · refine q_iconst (pc' := 74) dX9_nextAsk_73 rfl ?_
              refine q_istore (pc' := 76) (L' := [(4, q_i 0), (0, q_r Γ 150), (1, q_i b), (2, q_i best), (3, q_i k)]) dX9_nextAsk_74 rfl (by decide) rfl ?_
              refine q_iload (pc' := 78) 0 dX9_nextAsk_76 rfl rfl ?_
              refine q_if_eq (tgt := 106) (pc' := 81) dX9_nextAsk_78 rfl rfl (by decide) (fun qc_78_2 => ?_) (fun qc_78_2 => absurd qc_78_2 (by decide))
              refine q_iloadn (pc' := 107) 3 dX9_nextAsk_106 rfl rfl ?_
              refine q_istoren (pc' := 108) (L' := [(2, q_i best), (4, q_i 0), (0, q_r Γ 150), (1, q_i b), (3, q_i k)]) dX9_nextAsk_107 rfl rfl (by decide) rfl ?_
              refine q_iinc (pc' := 111) 4 (L' := [(3, q_i (k + 1)), (2, q_i best), (4, q_i 0), (0, q_r Γ 150), (1, q_i b)]) dX9_nextAsk_108 rfl rfl (by decide) rfl ?_
              refine q_goto (pc' := 5) dX9_nextAsk_111 rfl ?_
              refine p_sub [3, 4, 1, 0] rfl ?_
              exact qih_5 _ (by omega) _ _ (by first | assumption | omega) (by first | assumption | omega) (by rw [s_naN_s (by omega), ← qa_5_2]; first | exact (q_if_t ⟨⟨by omega, by omega, by omega, by omega⟩, by omega⟩).symm | exact (q_if_f (fun q => by obtain ⟨⟨q1, q2, q3, q4⟩, q5⟩ := q; omega)).symm) rfl
            · refine q_aloadn (pc' := 61) 0 dX9_nextAsk_60 rfl rfl ?_
              refine q_iloadn (pc' := 62) 3 dX9_nextAsk_61 rfl rfl ?_
              refine q_iconst (pc' := 63) dX9_nextAsk_62 rfl ?_
              refine q_callVI (pc' := 66) dX9_nextAsk_63 rfl lX9_148 iX9_askPart kc150 rfl (c_X9_askPart (by first | assumption | omega) (by first | assumption | omega)) rfl rfl (Nat.le_of_ble_eq_true rfl) (Nat.le_of_ble_eq_true rfl) (Nat.le_of_ble_eq_true rfl) ?_
              refine q_if_le (tgt := 73) (pc' := 69) dX9_nextAsk_66 rfl rfl (by first | assumption | omega) (fun qc_66 => ?_) (fun qc_66 => ?_)
              · refine q_iconst (pc' := 74) dX9_nextAsk_73 rfl ?_
                refine q_istore (pc' := 76) (L' := [(4, q_i 0), (0, q_r Γ 150), (1, q_i b), (2, q_i best), (3, q_i k)]) dX9_nextAsk_74 rfl (by decide) rfl ?_
                refine q_iload (pc' := 78) 0 dX9_nextAsk_76 rfl rfl ?_
                refine q_if_eq (tgt := 106) (pc' := 81) dX9_nextAsk_78 rfl rfl (by decide) (fun qc_78_3 => ?_) (fun qc_78_3 => absurd qc_78_3 (by decide))
                refine q_iloadn (pc' := 107) 3 dX9_nextAsk_106 rfl rfl ?_
                refine q_istoren (pc' := 108) (L' := [(2, q_i best), (4, q_i 0), (0, q_r Γ 150), (1, q_i b), (3, q_i k)]) dX9_nextAsk_107 rfl rfl (by decide) rfl ?_
                refine q_iinc (pc' := 111) 4 (L' := [(3, q_i (k + 1)), (2, q_i best), (4, q_i 0), (0, q_r Γ 150), (1, q_i b)]) dX9_nextAsk_108 rfl rfl (by decide) rfl ?_
                refine q_goto (pc' := 5) dX9_nextAsk_111 rfl ?_
                refine p_sub [3, 4, 1, 0] rfl ?_
                exact qih_5 _ (by omega) _ _ (by first | assumption | omega) (by first | assumption | omega) (by rw [s_naN_s (by omega), ← qa_5_2]; first | exact (q_if_t ⟨⟨by omega, by omega, by omega, by omega⟩, by omega⟩).symm | exact (q_if_f (fun q => by obtain ⟨⟨q1, q2, q3, q4⟩, q5⟩ := q; omega)).symm) rfl
              · refine q_iconst (pc' := 70) dX9_nextAsk_69 rfl ?_
                refine q_goto (pc' := 74) dX9_nextAsk_70 rfl ?_
                refine q_istore (pc' := 76) (L' := [(4, q_i 1), (0, q_r Γ 150), (1, q_i b), (2, q_i best), (3, q_i k)]) dX9_nextAsk_74 rfl (by decide) rfl ?_
                refine q_iload (pc' := 78) 0 dX9_nextAsk_76 rfl rfl ?_
                refine q_if_eq (tgt := 106) (pc' := 81) dX9_nextAsk_78 rfl rfl (by decide) (fun qc_78_4 => absurd qc_78_4 (by decide)) (fun qc_78_4 => ?_)
                refine q_iloadn (pc' := 82) 3 dX9_nextAsk_81 rfl rfl ?_
                refine q_bipush (pc' := 84) dX9_nextAsk_82 rfl rfl ?_
                refine q_icmp_eq (tgt := 102) (pc' := 87) dX9_nextAsk_84 rfl rfl (by first | assumption | omega) (by decide) (fun qc_84 => ?_) (fun qc_84 => ?_)
                · refine q_iloadn (pc' := 103) 4 dX9_nextAsk_102 rfl rfl ?_
                  refine q_goto (pc' := 107) dX9_nextAsk_103 rfl ?_
                  refine q_istoren (pc' := 108) (L' := [(2, q_i k), (4, q_i 1), (0, q_r Γ 150), (1, q_i b), (3, q_i k)]) dX9_nextAsk_107 rfl rfl (by decide) rfl ?_
                  refine q_iinc (pc' := 111) 4 (L' := [(3, q_i (k + 1)), (2, q_i k), (4, q_i 1), (0, q_r Γ 150), (1, q_i b)]) dX9_nextAsk_108 rfl rfl (by decide) rfl ?_
                  refine q_goto (pc' := 5) dX9_nextAsk_111 rfl ?_
                  refine p_sub [3, 4, 1, 0] rfl ?_
                  exact qih_5 _ (by omega) _ _ (by first | assumption | omega) (by first | assumption | omega) (by rw [s_naN_s (by omega), ← qa_5_2]; first | exact (q_if_t ⟨⟨by omega, by omega, by omega, by omega⟩, by omega⟩).symm | exact (q_if_f (fun q => by obtain ⟨⟨q1, q2, q3, q4⟩, q5⟩ := q; omega)).symm) rfl
                · have pm := s_as_b ok (i := best) (by omega) (by omega)
                  refine q_aloadn (pc' := 88) 1 dX9_nextAsk_87 rfl rfl ?_
                  refine q_iloadn (pc' := 89) 4 dX9_nextAsk_88 rfl rfl ?_
                  refine q_iconst (pc' := 90) dX9_nextAsk_89 rfl ?_
                  refine q_callVI (pc' := 93) dX9_nextAsk_90 rfl lX9_148 iX9_askPart kc150 rfl (c_X9_askPart (by first | assumption | omega) (by first | assumption | omega)) rfl rfl (Nat.le_of_ble_eq_true rfl) (Nat.le_of_ble_eq_true rfl) (Nat.le_of_ble_eq_true rfl) ?_
                  refine q_aloadn (pc' := 94) 1 dX9_nextAsk_93 rfl rfl ?_
                  refine q_iloadn (pc' := 95) 3 dX9_nextAsk_94 rfl rfl ?_
                  refine q_iconst (pc' := 96) dX9_nextAsk_95 rfl ?_
                  refine q_callVI (pc' := 99) dX9_nextAsk_96 rfl lX9_148 iX9_askPart kc150 rfl (c_X9_askPart (by first | assumption | omega) (by first | assumption | omega)) rfl rfl (Nat.le_of_ble_eq_true rfl) (Nat.le_of_ble_eq_true rfl) (Nat.le_of_ble_eq_true rfl) ?_
                  refine q_icmp_ge (tgt := 106) (pc' := 102) dX9_nextAsk_99 rfl rfl (by first | assumption | omega) (by first | assumption | omega) (fun qc_99 => ?_) (fun qc_99 => ?_)
                  · refine q_iloadn (pc' := 107) 3 dX9_nextAsk_106 rfl rfl ?_
                    refine q_istoren (pc' := 108) (L' := [(2, q_i best), (4, q_i 1), (0, q_r Γ 150), (1, q_i b), (3, q_i k)]) dX9_nextAsk_107 rfl rfl (by decide) rfl ?_
                    refine q_iinc (pc' := 111) 4 (L' := [(3, q_i (k + 1)), (2, q_i best), (4, q_i 1), (0, q_r Γ 150), (1, q_i b)]) dX9_nextAsk_108 rfl rfl (by decide) rfl ?_
                    refine q_goto (pc' := 5) dX9_nextAsk_111 rfl ?_
                    refine p_sub [3, 4, 1, 0] rfl ?_
                    exact qih_5 _ (by omega) _ _ (by first | assumption | omega) (by first | assumption | omega) (by rw [s_naN_s (by omega), ← qa_5_2]; first | exact (q_if_t ⟨⟨by omega, by omega, by omega, by omega⟩, by omega⟩).symm | exact (q_if_f (fun q => by obtain ⟨⟨q1, q2, q3, q4⟩, q5⟩ := q; omega)).symm) rfl
                  · refine q_iloadn (pc' := 103) 4 dX9_nextAsk_102 rfl rfl ?_
                    refine q_goto (pc' := 107) dX9_nextAsk_103 rfl ?_
                    refine q_istoren (pc' := 108) (L' := [(2, q_i k), (4, q_i 1), (0, q_r Γ 150), (1, q_i b), (3, q_i k)]) dX9_nextAsk_107 rfl rfl (by decide) rfl ?_
                    refine q_iinc (pc' := 111) 4 (L' := [(3, q_i (k + 1)), (2, q_i k), (4, q_i 1), (0, q_r Γ 150), (1, q_i b)]) dX9_nextAsk_108 rfl rfl (by decide) rfl ?_
                    refine q_goto (pc' := 5) dX9_nextAsk_111 rfl ?_
                    refine p_sub [3, 4, 1, 0] rfl ?_
                    exact qih_5 _ (by omega) _ _ (by first | assumption | omega) (by first | assumption | omega) (by rw [s_naN_s (by omega), ← qa_5_2]; first | exact (q_if_t ⟨⟨by omega, by omega, by omega, by omega⟩, by omega⟩).symm | exact (q_if_f (fun q => by obtain ⟨⟨q1, q2, q3, q4⟩, q5⟩ := q; omega)).symm) rfl
  refine p_sub [2, 3, 1, 0] rfl ?_
  exact qlp_5 _ _ _ (by first | assumption | omega) (by first | assumption | omega) (by rfl) rfl
set_option maxRecDepth 20000 in
set_option maxHeartbeats 4000000 in
theorem c_X9_tradedBy {Γ : q_G} {S : q_S} {b : Int} (ok : s_ok (S 151)) (b0 : 0 ≤ b) (b1 : b < 10) : q_Sp Γ mX9_tradedBy 2 0 0 [q_r Γ 150, q_i b] (KC, S) (q_ev (some (q_i (s_tbV (S 151) b))) (KC, q_w1 S (s_tbP (S 151) b))) := by
  show q_Go Γ mX9_tradedBy 2 0 0 0 [(0, q_r Γ 150), (1, q_i b)] [] (KC, S) (q_ev (some (q_i (s_tbV (S 151) b))) (KC, q_w1 S (s_tbP (S 151) b)))
  have pb := s_bd_b ok b0 b1
  have rb := s_rt_b ok (a := s_bd (S 151) b 4) (b := s_bd (S 151) b 0) (h := s_bd (S 151) b 1) (by omega) (by omega) (by omega) (by omega) (by omega) (by omega)
  refine q_iconst (pc' := 1) dX9_tradedBy_0 rfl ?_
  refine q_istoren (pc' := 2) (L' := [(2, q_i 0), (0, q_r Γ 150), (1, q_i b)]) dX9_tradedBy_1 rfl rfl (by decide) rfl ?_
  refine q_aloadn (pc' := 3) 1 dX9_tradedBy_2 rfl rfl ?_
  refine q_iloadn (pc' := 4) 2 dX9_tradedBy_3 rfl rfl ?_
  refine q_iconst (pc' := 5) dX9_tradedBy_4 rfl ?_
  refine q_callVI (pc' := 8) dX9_tradedBy_5 rfl lX9_145 iX9_bidPart kc150 rfl (c_X9_bidPart (by first | assumption | omega) (by first | assumption | omega)) rfl rfl (Nat.le_of_ble_eq_true rfl) (Nat.le_of_ble_eq_true rfl) (Nat.le_of_ble_eq_true rfl) ?_
  refine q_istoren (pc' := 9) (L' := [(3, q_i (s_bd (S 151) b 4)), (2, q_i 0), (0, q_r Γ 150), (1, q_i b)]) dX9_tradedBy_8 rfl rfl (by decide) rfl ?_
  refine q_aloadn (pc' := 10) 2 dX9_tradedBy_9 rfl rfl ?_
  refine q_iloadn (pc' := 11) 3 dX9_tradedBy_10 rfl rfl ?_
  refine q_iconst (pc' := 12) dX9_tradedBy_11 rfl ?_
  refine q_callVI (pc' := 15) dX9_tradedBy_12 rfl lX9_145 iX9_bidPart kc150 rfl (c_X9_bidPart (by first | assumption | omega) (by first | assumption | omega)) rfl rfl (Nat.le_of_ble_eq_true rfl) (Nat.le_of_ble_eq_true rfl) (Nat.le_of_ble_eq_true rfl) ?_
  refine q_istore (pc' := 17) (L' := [(4, q_i (s_bd (S 151) b 0)), (3, q_i (s_bd (S 151) b 4)), (2, q_i 0), (0, q_r Γ 150), (1, q_i b)]) dX9_tradedBy_15 rfl (by decide) rfl ?_
  refine q_aloadn (pc' := 18) 3 dX9_tradedBy_17 rfl rfl ?_
  refine q_iloadn (pc' := 19) 4 dX9_tradedBy_18 rfl rfl ?_
  refine q_iconst (pc' := 20) dX9_tradedBy_19 rfl ?_
  refine q_callVI (pc' := 23) dX9_tradedBy_20 rfl lX9_145 iX9_bidPart kc150 rfl (c_X9_bidPart (by first | assumption | omega) (by first | assumption | omega)) rfl rfl (Nat.le_of_ble_eq_true rfl) (Nat.le_of_ble_eq_true rfl) (Nat.le_of_ble_eq_true rfl) ?_
  refine q_istore (pc' := 25) (L' := [(5, q_i (s_bd (S 151) b 1)), (4, q_i (s_bd (S 151) b 0)), (3, q_i (s_bd (S 151) b 4)), (2, q_i 0), (0, q_r Γ 150), (1, q_i b)]) dX9_tradedBy_23 rfl (by decide) rfl ?_
  refine q_aloadn (pc' := 26) 4 dX9_tradedBy_25 rfl rfl ?_
  refine q_iloadn (pc' := 27) 5 dX9_tradedBy_26 rfl rfl ?_
  refine q_callVI (pc' := 30) dX9_tradedBy_27 rfl lX9_151 iX9_nextAsk kc150 rfl (c_X9_nextAsk (by first | assumption | omega) (by first | assumption | omega) (by first | assumption | omega)) rfl rfl (Nat.le_of_ble_eq_true rfl) (Nat.le_of_ble_eq_true rfl) (Nat.le_of_ble_eq_true rfl) ?_
  refine q_istore (pc' := 32) (L' := [(6, q_i (s_na (S 151) b)), (5, q_i (s_bd (S 151) b 1)), (4, q_i (s_bd (S 151) b 0)), (3, q_i (s_bd (S 151) b 4)), (2, q_i 0), (0, q_r Γ 150), (1, q_i b)]) dX9_tradedBy_30 rfl (by decide) rfl ?_
  refine q_sipush (pc' := 35) dX9_tradedBy_32 rfl rfl ?_
  refine q_aloadn (pc' := 36) 5 dX9_tradedBy_35 rfl rfl ?_
  refine q_iloadn (pc' := 37) 3 dX9_tradedBy_36 rfl rfl ?_
  refine q_iload (pc' := 39) 2 dX9_tradedBy_37 rfl rfl ?_
  refine q_iload (pc' := 41) 1 dX9_tradedBy_39 rfl rfl ?_
  refine q_callVI (pc' := 44) dX9_tradedBy_41 rfl lX9_58 iX9_rightOf kc150 rfl (c_X9_rightOf (by first | assumption | omega) (by first | assumption | omega)) rfl rfl (Nat.le_of_ble_eq_true rfl) (Nat.le_of_ble_eq_true rfl) (Nat.le_of_ble_eq_true rfl) ?_
  refine q_isub (pc' := 45) dX9_tradedBy_44 rfl ?_
  refine q_istore (pc' := 47) (L' := [(7, q_i (999 - (s_rt (S 151) (s_bd (S 151) b 4) (s_bd (S 151) b 0) (s_bd (S 151) b 1)))), (6, q_i (s_na (S 151) b)), (5, q_i (s_bd (S 151) b 1)), (4, q_i (s_bd (S 151) b 0)), (3, q_i (s_bd (S 151) b 4)), (2, q_i 0), (0, q_r Γ 150), (1, q_i b)]) dX9_tradedBy_45 rfl (by decide) rfl ?_
  have qlp_47 : ∀ (qn_47 : Nat) (n : Nat) (S2 : q_S) (sum ask room : Int), (s_tbX (S 151) b = s_tbL b n (S2 151, room, sum)) → (s_bd (S2 151) b 2 < n) → (ask = s_na (S2 151) b) → (0 ≤ room ∧ room ≤ 999) → (s_ok (S2 151)) → (s_off S S2 (fun a => a = 151)) → (s_bd (S2 151) b 4 = s_bd (S 151) b 4 ∧ s_bd (S2 151) b 0 = s_bd (S 151) b 0 ∧ s_bd (S2 151) b 1 = s_bd (S 151) b 1) → (n) = qn_47 → q_Go Γ mX9_tradedBy 2 0 0 47 [(0, q_r Γ 150), (1, q_i b), (2, q_i sum), (3, q_i (s_bd (S 151) b 4)), (4, q_i (s_bd (S 151) b 0)), (5, q_i (s_bd (S 151) b 1)), (6, q_i ask), (7, q_i room)] [] (KC, S2) (q_ev (some (q_i (s_tbV (S 151) b))) (KC, q_w1 S (s_tbP (S 151) b))) := by
    intro qn_47
    induction qn_47 using Nat.strongRecOn with
    | ind qn_47 qih_47 =>
      intro n S2 sum ask room qa_47_0 qa_47_1 qa_47_2 qa_47_3 qa_47_4 qa_47_5 qa_47_6 qhn_47
      subst qhn_47
      have ok2 : s_ok (S2 151) := qa_47_4
      have pb2 := s_bd_b ok2 b0 b1
      have ab := s_na_b ok2 b
      rw [← qa_47_2] at ab
      have as2 : ask = -6 ∨ 0 < s_as (S2 151) ask 2 := ab.imp id (fun q => q.2.2.2.2.2)
      have c3 := ok2.2.2.1
      refine q_iload (pc' := 49) 6 dX9_tradedBy_47 rfl rfl ?_
      refine q_bipush (pc' := 51) dX9_tradedBy_49 rfl rfl ?_
      refine q_icmp_eq (tgt := 228) (pc' := 54) dX9_tradedBy_51 rfl rfl (by first | assumption | omega) (by decide) (fun qc_51 => ?_) (fun qc_51 => ?_)
      · have ex : s_tbX (S 151) b = (S2 151, room, sum) := by rw [qa_47_0]; exact s_tbL_f (fun q => by have q1 := q.1; have q2 : 0 < room := q.2.1; have q3 : 0 < s_bd (S2 151) b 2 := q.2.2; first | omega | (rw [← qa_47_2] at q1; exact q1 (by assumption)))
        refine q_aloadn (pc' := 229) 0 dX9_tradedBy_228 rfl rfl ?_
        refine q_iloadn (pc' := 230) 3 dX9_tradedBy_229 rfl rfl ?_
        refine q_iload (pc' := 232) 4 dX9_tradedBy_230 rfl rfl ?_
        refine q_iload (pc' := 234) 5 dX9_tradedBy_232 rfl rfl ?_
        refine q_sipush (pc' := 237) dX9_tradedBy_234 rfl rfl ?_
        refine q_iload (pc' := 239) 7 dX9_tradedBy_237 rfl rfl ?_
        refine q_isub (pc' := 240) dX9_tradedBy_239 rfl ?_
        refine q_callVV (pc' := 243) dX9_tradedBy_240 rfl lX9_117 iX9_setRight kc150 rfl (c_X9_setRight (by first | assumption | omega) (by first | assumption | omega) (by first | assumption | omega) (by first | assumption | omega) (by first | assumption | omega) (by first | assumption | omega) (by first | assumption | omega)) rfl rfl (Nat.le_of_ble_eq_true rfl) (Nat.le_of_ble_eq_true rfl) (Nat.le_of_ble_eq_true rfl) ?_
        refine q_iloadn (pc' := 244) 2 dX9_tradedBy_243 rfl rfl ?_
        refine p_iret dX9_tradedBy_244 rfl ?_ ?_
        · unfold s_tbV; rw [ex]
        · rw [s_off_w1 (s_off_u qa_47_5 rfl : s_off S (q_up S2 151 (39 + 10 * (6 * s_bd (S 151) b 4 + s_bd (S 151) b 0) + s_bd (S 151) b 1) (999 - room)) (fun a => a = 151)), q_up_fn]; unfold s_tbP; rw [ex]
      · refine q_iload (pc' := 56) 7 dX9_tradedBy_54 rfl rfl ?_
        refine q_if_le (tgt := 228) (pc' := 59) dX9_tradedBy_56 rfl rfl (by first | assumption | omega) (fun qc_56 => ?_) (fun qc_56 => ?_)
        · have ex : s_tbX (S 151) b = (S2 151, room, sum) := by rw [qa_47_0]; exact s_tbL_f (fun q => by have q1 := q.1; have q2 : 0 < room := q.2.1; have q3 : 0 < s_bd (S2 151) b 2 := q.2.2; first | omega | (rw [← qa_47_2] at q1; exact q1 (by assumption)))
          refine q_aloadn (pc' := 229) 0 dX9_tradedBy_228 rfl rfl ?_
          refine q_iloadn (pc' := 230) 3 dX9_tradedBy_229 rfl rfl ?_
          refine q_iload (pc' := 232) 4 dX9_tradedBy_230 rfl rfl ?_
          refine q_iload (pc' := 234) 5 dX9_tradedBy_232 rfl rfl ?_
          refine q_sipush (pc' := 237) dX9_tradedBy_234 rfl rfl ?_
          refine q_iload (pc' := 239) 7 dX9_tradedBy_237 rfl rfl ?_
          refine q_isub (pc' := 240) dX9_tradedBy_239 rfl ?_
          refine q_callVV (pc' := 243) dX9_tradedBy_240 rfl lX9_117 iX9_setRight kc150 rfl (c_X9_setRight (by first | assumption | omega) (by first | assumption | omega) (by first | assumption | omega) (by first | assumption | omega) (by first | assumption | omega) (by first | assumption | omega) (by first | assumption | omega)) rfl rfl (Nat.le_of_ble_eq_true rfl) (Nat.le_of_ble_eq_true rfl) (Nat.le_of_ble_eq_true rfl) ?_
          refine q_iloadn (pc' := 244) 2 dX9_tradedBy_243 rfl rfl ?_
          refine p_iret dX9_tradedBy_244 rfl ?_ ?_
          · unfold s_tbV; rw [ex]
          · rw [s_off_w1 (s_off_u qa_47_5 rfl : s_off S (q_up S2 151 (39 + 10 * (6 * s_bd (S 151) b 4 + s_bd (S 151) b 0) + s_bd (S 151) b 1) (999 - room)) (fun a => a = 151)), q_up_fn]; unfold s_tbP; rw [ex]
        · refine q_aloadn (pc' := 60) 0 dX9_tradedBy_59 rfl rfl ?_
          refine q_iloadn (pc' := 61) 1 dX9_tradedBy_60 rfl rfl ?_
          refine q_iconst (pc' := 62) dX9_tradedBy_61 rfl ?_
          refine q_callVI (pc' := 65) dX9_tradedBy_62 rfl lX9_145 iX9_bidPart kc150 rfl (c_X9_bidPart (by first | assumption | omega) (by first | assumption | omega)) rfl rfl (Nat.le_of_ble_eq_true rfl) (Nat.le_of_ble_eq_true rfl) (Nat.le_of_ble_eq_true rfl) ?_
          refine q_if_le (tgt := 228) (pc' := 68) dX9_tradedBy_65 rfl rfl (by first | assumption | omega) (fun qc_65 => ?_) (fun qc_65 => ?_)
          · have ex : s_tbX (S 151) b = (S2 151, room, sum) := by rw [qa_47_0]; exact s_tbL_f (fun q => by have q1 := q.1; have q2 : 0 < room := q.2.1; have q3 : 0 < s_bd (S2 151) b 2 := q.2.2; first | omega | (rw [← qa_47_2] at q1; exact q1 (by assumption)))
            refine q_aloadn (pc' := 229) 0 dX9_tradedBy_228 rfl rfl ?_
            refine q_iloadn (pc' := 230) 3 dX9_tradedBy_229 rfl rfl ?_
            refine q_iload (pc' := 232) 4 dX9_tradedBy_230 rfl rfl ?_
            refine q_iload (pc' := 234) 5 dX9_tradedBy_232 rfl rfl ?_
            refine q_sipush (pc' := 237) dX9_tradedBy_234 rfl rfl ?_
            refine q_iload (pc' := 239) 7 dX9_tradedBy_237 rfl rfl ?_
            refine q_isub (pc' := 240) dX9_tradedBy_239 rfl ?_
            refine q_callVV (pc' := 243) dX9_tradedBy_240 rfl lX9_117 iX9_setRight kc150 rfl (c_X9_setRight (by first | assumption | omega) (by first | assumption | omega) (by first | assumption | omega) (by first | assumption | omega) (by first | assumption | omega) (by first | assumption | omega) (by first | assumption | omega)) rfl rfl (Nat.le_of_ble_eq_true rfl) (Nat.le_of_ble_eq_true rfl) (Nat.le_of_ble_eq_true rfl) ?_
            refine q_iloadn (pc' := 244) 2 dX9_tradedBy_243 rfl rfl ?_
            refine p_iret dX9_tradedBy_244 rfl ?_ ?_
            · unfold s_tbV; rw [ex]
            · rw [s_off_w1 (s_off_u qa_47_5 rfl : s_off S (q_up S2 151 (39 + 10 * (6 * s_bd (S 151) b 4 + s_bd (S 151) b 0) + s_bd (S 151) b 1) (999 - room)) (fun a => a = 151)), q_up_fn]; unfold s_tbP; rw [ex]
          · have pa2 := s_as_b ok2 (i := ask) (by omega) (by omega)
            refine q_aloadn (pc' := 69) 0 dX9_tradedBy_68 rfl rfl ?_
            refine q_iload (pc' := 71) 6 dX9_tradedBy_69 rfl rfl ?_
            refine q_iconst (pc' := 72) dX9_tradedBy_71 rfl ?_
            refine q_callVI (pc' := 75) dX9_tradedBy_72 rfl lX9_148 iX9_askPart kc150 rfl (c_X9_askPart (by first | assumption | omega) (by first | assumption | omega)) rfl rfl (Nat.le_of_ble_eq_true rfl) (Nat.le_of_ble_eq_true rfl) (Nat.le_of_ble_eq_true rfl) ?_
            refine q_aloadn (pc' := 76) 0 dX9_tradedBy_75 rfl rfl ?_
            refine q_iloadn (pc' := 77) 1 dX9_tradedBy_76 rfl rfl ?_
            refine q_iconst (pc' := 78) dX9_tradedBy_77 rfl ?_
            refine q_callVI (pc' := 81) dX9_tradedBy_78 rfl lX9_145 iX9_bidPart kc150 rfl (c_X9_bidPart (by first | assumption | omega) (by first | assumption | omega)) rfl rfl (Nat.le_of_ble_eq_true rfl) (Nat.le_of_ble_eq_true rfl) (Nat.le_of_ble_eq_true rfl) ?_
            refine q_icmp_ge (tgt := 94) (pc' := 84) dX9_tradedBy_81 rfl rfl (by first | assumption | omega) (by first | assumption | omega) (fun qc_81 => ?_) (fun qc_81 => ?_)
            · refine q_aloadn (pc' := 95) 0 dX9_tradedBy_94 rfl rfl ?_
              refine q_iloadn (pc' := 96) 1 dX9_tradedBy_95 rfl rfl ?_
              refine q_iconst (pc' := 97) dX9_tradedBy_96 rfl ?_
              refine q_callVI (pc' := 100) dX9_tradedBy_97 rfl lX9_145 iX9_bidPart kc150 rfl (c_X9_bidPart (by first | assumption | omega) (by first | assumption | omega)) rfl rfl (Nat.le_of_ble_eq_true rfl) (Nat.le_of_ble_eq_true rfl) (Nat.le_of_ble_eq_true rfl) ?_
              refine q_istore (pc' := 102) (L' := [(8, q_i (s_bd (S2 151) b 2)), (0, q_r Γ 150), (1, q_i b), (2, q_i sum), (3, q_i (s_bd (S 151) b 4)), (4, q_i (s_bd (S 151) b 0)), (5, q_i (s_bd (S 151) b 1)), (6, q_i ask), (7, q_i room)]) dX9_tradedBy_100 rfl (by decide) rfl ?_
              refine q_iload (pc' := 104) 0 dX9_tradedBy_102 rfl rfl ?_
              refine q_iload (pc' := 106) 8 dX9_tradedBy_104 rfl rfl ?_
              refine q_icmp_ge (tgt := 114) (pc' := 109) dX9_tradedBy_106 rfl rfl (by first | assumption | omega) (by first | assumption | omega) (fun qc_106 => ?_) (fun qc_106 => ?_)
              · refine q_iload (pc' := 116) 8 dX9_tradedBy_114 rfl rfl ?_
                refine q_istore (pc' := 118) (L' := [(8, q_i room), (0, q_r Γ 150), (1, q_i b), (2, q_i sum), (3, q_i (s_bd (S 151) b 4)), (4, q_i (s_bd (S 151) b 0)), (5, q_i (s_bd (S 151) b 1)), (6, q_i ask), (7, q_i room)]) dX9_tradedBy_116 rfl (by decide) rfl ?_
                refine q_iload (pc' := 120) 0 dX9_tradedBy_118 rfl rfl ?_
                refine q_aloadn (pc' := 121) 1 dX9_tradedBy_120 rfl rfl ?_
                refine q_iload (pc' := 123) 7 dX9_tradedBy_121 rfl rfl ?_
                refine q_iconst (pc' := 124) dX9_tradedBy_123 rfl ?_
                refine q_callVI (pc' := 127) dX9_tradedBy_124 rfl lX9_148 iX9_askPart kc150 rfl (c_X9_askPart (by first | assumption | omega) (by first | assumption | omega)) rfl rfl (Nat.le_of_ble_eq_true rfl) (Nat.le_of_ble_eq_true rfl) (Nat.le_of_ble_eq_true rfl) ?_
                refine q_imul (pc' := 128) dX9_tradedBy_127 rfl ?_
                refine q_istore (pc' := 130) (L' := [(9, q_i (room * (s_as (S2 151) ask 3))), (8, q_i room), (0, q_r Γ 150), (1, q_i b), (2, q_i sum), (3, q_i (s_bd (S 151) b 4)), (4, q_i (s_bd (S 151) b 0)), (5, q_i (s_bd (S 151) b 1)), (6, q_i ask), (7, q_i room)]) dX9_tradedBy_128 rfl (by decide) rfl ?_
                obtain ⟨n2, en⟩ : ∃ n2 : Nat, n = n2 + 1 := ⟨n - 1, by omega⟩
                have eu : s_tu (S2 151, room, sum) b = room := by show min (min (s_as (S2 151) (s_na (S2 151) b) 2) (s_bd (S2 151) b 2)) room = _; rw [← qa_47_2]; omega
                have pm := q_mulb (a := room) (b := s_as (S2 151) ask 3) (A := 200) (B := 999) (by omega) (by omega) (by omega) (by omega)
                refine q_aloadn (pc' := 131) 2 dX9_tradedBy_130 rfl rfl ?_
                refine p_getR (pc' := 134) (f := 151) dX9_tradedBy_131 rfl fX9_7 kc150 rfl ?_
                refine q_sipush (pc' := 137) dX9_tradedBy_134 rfl rfl ?_
                refine q_iconst (pc' := 138) dX9_tradedBy_137 rfl ?_
                refine q_iload (pc' := 140) 8 dX9_tradedBy_138 rfl rfl ?_
                refine q_imul (pc' := 141) dX9_tradedBy_140 rfl ?_
                refine q_iadd (pc' := 142) dX9_tradedBy_141 rfl ?_
                refine q_iconst (pc' := 143) dX9_tradedBy_142 rfl ?_
                refine q_iadd (pc' := 144) dX9_tradedBy_143 rfl ?_
                refine q_dup2 (pc' := 145) dX9_tradedBy_144 rfl rfl rfl ?_
                refine p_iald (pc' := 146) dX9_tradedBy_145 rfl kc151 (by first | assumption | omega) (by first | assumption | omega) (by decide) (fun qy_145 eqy_145 rqy_145 => ?_)
                refine q_iload (pc' := 148) 1 dX9_tradedBy_146 rfl rfl ?_
                refine q_isub (pc' := 149) dX9_tradedBy_148 rfl ?_
                refine p_wr (fun hw148 => ?_)
                refine p_iast (pc' := 150) dX9_tradedBy_149 rfl kc151 (by first | assumption | omega) (by first | assumption | omega) (by decide) (by first | assumption | omega) ?_
                refine q_aloadn (pc' := 151) 2 dX9_tradedBy_150 rfl rfl ?_
                refine p_getR (pc' := 154) (f := 151) dX9_tradedBy_151 rfl fX9_7 kc150 rfl ?_
                refine q_sipush (pc' := 157) dX9_tradedBy_154 rfl rfl ?_
                refine q_iconst (pc' := 158) dX9_tradedBy_157 rfl ?_
                refine q_iloadn (pc' := 159) 3 dX9_tradedBy_158 rfl rfl ?_
                refine q_imul (pc' := 160) dX9_tradedBy_159 rfl ?_
                refine q_iadd (pc' := 161) dX9_tradedBy_160 rfl ?_
                refine q_iconst (pc' := 162) dX9_tradedBy_161 rfl ?_
                refine q_iadd (pc' := 163) dX9_tradedBy_162 rfl ?_
                refine q_dup2 (pc' := 164) dX9_tradedBy_163 rfl rfl rfl ?_
                refine p_iald (pc' := 165) dX9_tradedBy_164 rfl kc151 (by first | assumption | omega) (by first | assumption | omega) (by decide) (fun qy_164 eqy_164 rqy_164 => ?_)
                refine q_iload (pc' := 167) 1 dX9_tradedBy_165 rfl rfl ?_
                refine q_isub (pc' := 168) dX9_tradedBy_167 rfl ?_
                refine p_wr (fun hw167 => ?_)
                refine p_iast (pc' := 169) dX9_tradedBy_168 rfl kc151 (by first | assumption | omega) (by first | assumption | omega) (by decide) (by first | assumption | omega) ?_
                refine q_aloadn (pc' := 170) 2 dX9_tradedBy_169 rfl rfl ?_
                refine p_getR (pc' := 173) (f := 151) dX9_tradedBy_170 rfl fX9_7 kc150 rfl ?_
                refine q_bipush (pc' := 175) dX9_tradedBy_173 rfl rfl ?_
                refine q_iconst (pc' := 176) dX9_tradedBy_175 rfl ?_
                refine q_iloadn (pc' := 177) 5 dX9_tradedBy_176 rfl rfl ?_
                refine q_imul (pc' := 178) dX9_tradedBy_177 rfl ?_
                refine q_iadd (pc' := 179) dX9_tradedBy_178 rfl ?_
                refine q_iconst (pc' := 180) dX9_tradedBy_179 rfl ?_
                refine q_iadd (pc' := 181) dX9_tradedBy_180 rfl ?_
                refine q_dup2 (pc' := 182) dX9_tradedBy_181 rfl rfl rfl ?_
                refine p_iald (pc' := 183) dX9_tradedBy_182 rfl kc151 (by first | assumption | omega) (by first | assumption | omega) (by decide) (fun qy_182 eqy_182 rqy_182 => ?_)
                refine q_iload (pc' := 185) 0 dX9_tradedBy_183 rfl rfl ?_
                refine q_isub (pc' := 186) dX9_tradedBy_185 rfl ?_
                refine p_wr (fun hw185 => ?_)
                refine p_iast (pc' := 187) dX9_tradedBy_186 rfl kc151 (by first | assumption | omega) (by first | assumption | omega) (by decide) (by first | assumption | omega) ?_
                refine q_aloadn (pc' := 188) 2 dX9_tradedBy_187 rfl rfl ?_
                refine p_getR (pc' := 191) (f := 151) dX9_tradedBy_188 rfl fX9_7 kc150 rfl ?_
                refine q_bipush (pc' := 193) dX9_tradedBy_191 rfl rfl ?_
                refine q_iconst (pc' := 194) dX9_tradedBy_193 rfl ?_
                refine q_iload (pc' := 196) 6 dX9_tradedBy_194 rfl rfl ?_
                refine q_imul (pc' := 197) dX9_tradedBy_196 rfl ?_
                refine q_iadd (pc' := 198) dX9_tradedBy_197 rfl ?_
                refine q_iconst (pc' := 199) dX9_tradedBy_198 rfl ?_
                refine q_iadd (pc' := 200) dX9_tradedBy_199 rfl ?_
                refine q_dup2 (pc' := 201) dX9_tradedBy_200 rfl rfl rfl ?_
                refine p_iald (pc' := 202) dX9_tradedBy_201 rfl kc151 (by first | assumption | omega) (by first | assumption | omega) (by decide) (fun qy_201 eqy_201 rqy_201 => ?_)
                refine q_iload (pc' := 204) 0 dX9_tradedBy_202 rfl rfl ?_
                refine q_iadd (pc' := 205) dX9_tradedBy_204 rfl ?_
                refine p_wr (fun hw204 => ?_)
                refine p_iast (pc' := 206) dX9_tradedBy_205 rfl kc151 (by first | assumption | omega) (by first | assumption | omega) (by decide) (by first | assumption | omega) ?_
                refine q_topS (fun qS_205 hqS_205 => ?_)
                have e205 : qS_205 151 = s_trd (S2 151) ask b room := by rw [hqS_205, q_up_fn, eqy_201, q_up_fn, eqy_182, q_up_fn, eqy_164, q_up_fn, eqy_145]; unfold s_trd; rw [qa_47_6.1, qa_47_6.2.1]; rfl
                have e205b : s_bd (qS_205 151) b 2 = s_bd (S2 151) b 2 - room := by rw [e205]; exact s_trd_b ok2 (by omega) (by omega) b0 b1 (by omega) (by omega)
                have ok5 : s_bd (qS_205 151) b 4 = s_bd (S 151) b 4 ∧ s_bd (qS_205 151) b 0 = s_bd (S 151) b 0 ∧ s_bd (qS_205 151) b 1 = s_bd (S 151) b 1 := by rw [e205, ← qa_47_6.1, ← qa_47_6.2.1, ← qa_47_6.2.2]; exact ⟨s_trd_ne (by omega) (by omega) (by omega) (by omega), s_trd_ne (by omega) (by omega) (by omega) (by omega), s_trd_ne (by omega) (by omega) (by omega) (by omega)⟩
                have ok205 : s_ok (qS_205 151) := by rw [e205]; exact s_ok_trd ok2 (by omega) (by omega) b0 b1 (by omega) (by omega) (by omega)
                refine q_iload (pc' := 208) 9 dX9_tradedBy_206 rfl rfl ?_
                refine q_iload (pc' := 210) 1 dX9_tradedBy_208 rfl rfl ?_
                refine q_isub (pc' := 211) dX9_tradedBy_210 rfl ?_
                refine q_istore (pc' := 213) (L' := [(7, q_i (room - room)), (9, q_i (room * (s_as (S2 151) ask 3))), (8, q_i room), (0, q_r Γ 150), (1, q_i b), (2, q_i sum), (3, q_i (s_bd (S 151) b 4)), (4, q_i (s_bd (S 151) b 0)), (5, q_i (s_bd (S 151) b 1)), (6, q_i ask)]) dX9_tradedBy_211 rfl (by decide) rfl ?_
                refine q_iloadn (pc' := 214) 5 dX9_tradedBy_213 rfl rfl ?_
                refine q_iload (pc' := 216) 2 dX9_tradedBy_214 rfl rfl ?_
                refine q_iadd (pc' := 217) dX9_tradedBy_216 rfl ?_
                refine q_istoren (pc' := 218) (L' := [(2, q_i (sum + room)), (7, q_i (room - room)), (9, q_i (room * (s_as (S2 151) ask 3))), (8, q_i room), (0, q_r Γ 150), (1, q_i b), (3, q_i (s_bd (S 151) b 4)), (4, q_i (s_bd (S 151) b 0)), (5, q_i (s_bd (S 151) b 1)), (6, q_i ask)]) dX9_tradedBy_217 rfl rfl (by decide) rfl ?_
                refine q_aloadn (pc' := 219) 4 dX9_tradedBy_218 rfl rfl ?_
                refine q_iloadn (pc' := 220) 5 dX9_tradedBy_219 rfl rfl ?_
                refine q_callVI (pc' := 223) dX9_tradedBy_220 rfl lX9_151 iX9_nextAsk kc150 rfl (c_X9_nextAsk (by first | assumption | omega) (by first | assumption | omega) (by first | assumption | omega)) rfl rfl (Nat.le_of_ble_eq_true rfl) (Nat.le_of_ble_eq_true rfl) (Nat.le_of_ble_eq_true rfl) ?_
                refine q_istore (pc' := 225) (L' := [(6, q_i (s_na (qS_205 151) b)), (2, q_i (sum + room)), (7, q_i (room - room)), (9, q_i (room * (s_as (S2 151) ask 3))), (8, q_i room), (0, q_r Γ 150), (1, q_i b), (3, q_i (s_bd (S 151) b 4)), (4, q_i (s_bd (S 151) b 0)), (5, q_i (s_bd (S 151) b 1))]) dX9_tradedBy_223 rfl (by decide) rfl ?_
                refine q_goto (pc' := 47) dX9_tradedBy_225 rfl ?_
                refine p_sub [5, 6, 1, 7, 8, 9, 0, 2] rfl ?_
                exact qih_47 _ (by omega) n2 _ _ _ _ (by rw [qa_47_0, en, s_tbL_t ⟨by rw [← qa_47_2]; assumption, by assumption, by assumption⟩, eu, ← qa_47_2, ← e205]) (by rw [e205b]; omega) (by rfl) (by omega) (by rw [e205]; exact s_ok_trd ok2 (by omega) (by omega) b0 b1 (by omega) (by omega) (by omega)) (by rw [hqS_205]; exact s_off_u (s_off_u (s_off_u (s_off_u qa_47_5 rfl) rfl) rfl) rfl) (by exact ok5) rfl
              · refine q_iload (pc' := 111) 0 dX9_tradedBy_109 rfl rfl ?_
                refine q_goto (pc' := 116) dX9_tradedBy_111 rfl ?_
                refine q_istore (pc' := 118) (L' := [(8, q_i (s_bd (S2 151) b 2)), (0, q_r Γ 150), (1, q_i b), (2, q_i sum), (3, q_i (s_bd (S 151) b 4)), (4, q_i (s_bd (S 151) b 0)), (5, q_i (s_bd (S 151) b 1)), (6, q_i ask), (7, q_i room)]) dX9_tradedBy_116 rfl (by decide) rfl ?_
                refine q_iload (pc' := 120) 0 dX9_tradedBy_118 rfl rfl ?_
                refine q_aloadn (pc' := 121) 1 dX9_tradedBy_120 rfl rfl ?_
                refine q_iload (pc' := 123) 7 dX9_tradedBy_121 rfl rfl ?_
                refine q_iconst (pc' := 124) dX9_tradedBy_123 rfl ?_
                refine q_callVI (pc' := 127) dX9_tradedBy_124 rfl lX9_148 iX9_askPart kc150 rfl (c_X9_askPart (by first | assumption | omega) (by first | assumption | omega)) rfl rfl (Nat.le_of_ble_eq_true rfl) (Nat.le_of_ble_eq_true rfl) (Nat.le_of_ble_eq_true rfl) ?_
                refine q_imul (pc' := 128) dX9_tradedBy_127 rfl ?_
                refine q_istore (pc' := 130) (L' := [(9, q_i ((s_bd (S2 151) b 2) * (s_as (S2 151) ask 3))), (8, q_i (s_bd (S2 151) b 2)), (0, q_r Γ 150), (1, q_i b), (2, q_i sum), (3, q_i (s_bd (S 151) b 4)), (4, q_i (s_bd (S 151) b 0)), (5, q_i (s_bd (S 151) b 1)), (6, q_i ask), (7, q_i room)]) dX9_tradedBy_128 rfl (by decide) rfl ?_
                obtain ⟨n2, en⟩ : ∃ n2 : Nat, n = n2 + 1 := ⟨n - 1, by omega⟩
                have eu : s_tu (S2 151, room, sum) b = (s_bd (S2 151) b 2) := by show min (min (s_as (S2 151) (s_na (S2 151) b) 2) (s_bd (S2 151) b 2)) room = _; rw [← qa_47_2]; omega
                have pm := q_mulb (a := (s_bd (S2 151) b 2)) (b := s_as (S2 151) ask 3) (A := 200) (B := 999) (by omega) (by omega) (by omega) (by omega)
                refine q_aloadn (pc' := 131) 2 dX9_tradedBy_130 rfl rfl ?_
                refine p_getR (pc' := 134) (f := 151) dX9_tradedBy_131 rfl fX9_7 kc150 rfl ?_
                refine q_sipush (pc' := 137) dX9_tradedBy_134 rfl rfl ?_
                refine q_iconst (pc' := 138) dX9_tradedBy_137 rfl ?_
                refine q_iload (pc' := 140) 8 dX9_tradedBy_138 rfl rfl ?_
                refine q_imul (pc' := 141) dX9_tradedBy_140 rfl ?_
                refine q_iadd (pc' := 142) dX9_tradedBy_141 rfl ?_
                refine q_iconst (pc' := 143) dX9_tradedBy_142 rfl ?_
                refine q_iadd (pc' := 144) dX9_tradedBy_143 rfl ?_
                refine q_dup2 (pc' := 145) dX9_tradedBy_144 rfl rfl rfl ?_
                refine p_iald (pc' := 146) dX9_tradedBy_145 rfl kc151 (by first | assumption | omega) (by first | assumption | omega) (by decide) (fun qy_145_1 eqy_145_1 rqy_145_1 => ?_)
                refine q_iload (pc' := 148) 1 dX9_tradedBy_146 rfl rfl ?_
                refine q_isub (pc' := 149) dX9_tradedBy_148 rfl ?_
                refine p_wr (fun hw148 => ?_)
                refine p_iast (pc' := 150) dX9_tradedBy_149 rfl kc151 (by first | assumption | omega) (by first | assumption | omega) (by decide) (by first | assumption | omega) ?_
                refine q_aloadn (pc' := 151) 2 dX9_tradedBy_150 rfl rfl ?_
                refine p_getR (pc' := 154) (f := 151) dX9_tradedBy_151 rfl fX9_7 kc150 rfl ?_
                refine q_sipush (pc' := 157) dX9_tradedBy_154 rfl rfl ?_
                refine q_iconst (pc' := 158) dX9_tradedBy_157 rfl ?_
                refine q_iloadn (pc' := 159) 3 dX9_tradedBy_158 rfl rfl ?_
                refine q_imul (pc' := 160) dX9_tradedBy_159 rfl ?_
                refine q_iadd (pc' := 161) dX9_tradedBy_160 rfl ?_
                refine q_iconst (pc' := 162) dX9_tradedBy_161 rfl ?_
                refine q_iadd (pc' := 163) dX9_tradedBy_162 rfl ?_
                refine q_dup2 (pc' := 164) dX9_tradedBy_163 rfl rfl rfl ?_
                refine p_iald (pc' := 165) dX9_tradedBy_164 rfl kc151 (by first | assumption | omega) (by first | assumption | omega) (by decide) (fun qy_164_1 eqy_164_1 rqy_164_1 => ?_)
                refine q_iload (pc' := 167) 1 dX9_tradedBy_165 rfl rfl ?_
                refine q_isub (pc' := 168) dX9_tradedBy_167 rfl ?_
                refine p_wr (fun hw167 => ?_)
                refine p_iast (pc' := 169) dX9_tradedBy_168 rfl kc151 (by first | assumption | omega) (by first | assumption | omega) (by decide) (by first | assumption | omega) ?_
                refine q_aloadn (pc' := 170) 2 dX9_tradedBy_169 rfl rfl ?_
                refine p_getR (pc' := 173) (f := 151) dX9_tradedBy_170 rfl fX9_7 kc150 rfl ?_
                refine q_bipush (pc' := 175) dX9_tradedBy_173 rfl rfl ?_
                refine q_iconst (pc' := 176) dX9_tradedBy_175 rfl ?_
                refine q_iloadn (pc' := 177) 5 dX9_tradedBy_176 rfl rfl ?_
                refine q_imul (pc' := 178) dX9_tradedBy_177 rfl ?_
                refine q_iadd (pc' := 179) dX9_tradedBy_178 rfl ?_
                refine q_iconst (pc' := 180) dX9_tradedBy_179 rfl ?_
                refine q_iadd (pc' := 181) dX9_tradedBy_180 rfl ?_
                refine q_dup2 (pc' := 182) dX9_tradedBy_181 rfl rfl rfl ?_
                refine p_iald (pc' := 183) dX9_tradedBy_182 rfl kc151 (by first | assumption | omega) (by first | assumption | omega) (by decide) (fun qy_182_1 eqy_182_1 rqy_182_1 => ?_)
                refine q_iload (pc' := 185) 0 dX9_tradedBy_183 rfl rfl ?_
                refine q_isub (pc' := 186) dX9_tradedBy_185 rfl ?_
                refine p_wr (fun hw185 => ?_)
                refine p_iast (pc' := 187) dX9_tradedBy_186 rfl kc151 (by first | assumption | omega) (by first | assumption | omega) (by decide) (by first | assumption | omega) ?_
                refine q_aloadn (pc' := 188) 2 dX9_tradedBy_187 rfl rfl ?_
                refine p_getR (pc' := 191) (f := 151) dX9_tradedBy_188 rfl fX9_7 kc150 rfl ?_
                refine q_bipush (pc' := 193) dX9_tradedBy_191 rfl rfl ?_
                refine q_iconst (pc' := 194) dX9_tradedBy_193 rfl ?_
                refine q_iload (pc' := 196) 6 dX9_tradedBy_194 rfl rfl ?_
                refine q_imul (pc' := 197) dX9_tradedBy_196 rfl ?_
                refine q_iadd (pc' := 198) dX9_tradedBy_197 rfl ?_
                refine q_iconst (pc' := 199) dX9_tradedBy_198 rfl ?_
                refine q_iadd (pc' := 200) dX9_tradedBy_199 rfl ?_
                refine q_dup2 (pc' := 201) dX9_tradedBy_200 rfl rfl rfl ?_
                refine p_iald (pc' := 202) dX9_tradedBy_201 rfl kc151 (by first | assumption | omega) (by first | assumption | omega) (by decide) (fun qy_201_1 eqy_201_1 rqy_201_1 => ?_)
                refine q_iload (pc' := 204) 0 dX9_tradedBy_202 rfl rfl ?_
                refine q_iadd (pc' := 205) dX9_tradedBy_204 rfl ?_
                refine p_wr (fun hw204 => ?_)
                refine p_iast (pc' := 206) dX9_tradedBy_205 rfl kc151 (by first | assumption | omega) (by first | assumption | omega) (by decide) (by first | assumption | omega) ?_
                refine q_topS (fun qS_205 hqS_205 => ?_)
                have e205 : qS_205 151 = s_trd (S2 151) ask b (s_bd (S2 151) b 2) := by rw [hqS_205, q_up_fn, eqy_201_1, q_up_fn, eqy_182_1, q_up_fn, eqy_164_1, q_up_fn, eqy_145_1]; unfold s_trd; rw [qa_47_6.1, qa_47_6.2.1]; rfl
                have e205b : s_bd (qS_205 151) b 2 = s_bd (S2 151) b 2 - (s_bd (S2 151) b 2) := by rw [e205]; exact s_trd_b ok2 (by omega) (by omega) b0 b1 (by omega) (by omega)
                have ok5 : s_bd (qS_205 151) b 4 = s_bd (S 151) b 4 ∧ s_bd (qS_205 151) b 0 = s_bd (S 151) b 0 ∧ s_bd (qS_205 151) b 1 = s_bd (S 151) b 1 := by rw [e205, ← qa_47_6.1, ← qa_47_6.2.1, ← qa_47_6.2.2]; exact ⟨s_trd_ne (by omega) (by omega) (by omega) (by omega), s_trd_ne (by omega) (by omega) (by omega) (by omega), s_trd_ne (by omega) (by omega) (by omega) (by omega)⟩
                have ok205 : s_ok (qS_205 151) := by rw [e205]; exact s_ok_trd ok2 (by omega) (by omega) b0 b1 (by omega) (by omega) (by omega)
                refine q_iload (pc' := 208) 9 dX9_tradedBy_206 rfl rfl ?_
                refine q_iload (pc' := 210) 1 dX9_tradedBy_208 rfl rfl ?_
                refine q_isub (pc' := 211) dX9_tradedBy_210 rfl ?_
                refine q_istore (pc' := 213) (L' := [(7, q_i (room - (s_bd (S2 151) b 2))), (9, q_i ((s_bd (S2 151) b 2) * (s_as (S2 151) ask 3))), (8, q_i (s_bd (S2 151) b 2)), (0, q_r Γ 150), (1, q_i b), (2, q_i sum), (3, q_i (s_bd (S 151) b 4)), (4, q_i (s_bd (S 151) b 0)), (5, q_i (s_bd (S 151) b 1)), (6, q_i ask)]) dX9_tradedBy_211 rfl (by decide) rfl ?_
                refine q_iloadn (pc' := 214) 5 dX9_tradedBy_213 rfl rfl ?_
                refine q_iload (pc' := 216) 2 dX9_tradedBy_214 rfl rfl ?_
                refine q_iadd (pc' := 217) dX9_tradedBy_216 rfl ?_
                refine q_istoren (pc' := 218) (L' := [(2, q_i (sum + (s_bd (S2 151) b 2))), (7, q_i (room - (s_bd (S2 151) b 2))), (9, q_i ((s_bd (S2 151) b 2) * (s_as (S2 151) ask 3))), (8, q_i (s_bd (S2 151) b 2)), (0, q_r Γ 150), (1, q_i b), (3, q_i (s_bd (S 151) b 4)), (4, q_i (s_bd (S 151) b 0)), (5, q_i (s_bd (S 151) b 1)), (6, q_i ask)]) dX9_tradedBy_217 rfl rfl (by decide) rfl ?_
                refine q_aloadn (pc' := 219) 4 dX9_tradedBy_218 rfl rfl ?_
                refine q_iloadn (pc' := 220) 5 dX9_tradedBy_219 rfl rfl ?_
                refine q_callVI (pc' := 223) dX9_tradedBy_220 rfl lX9_151 iX9_nextAsk kc150 rfl (c_X9_nextAsk (by first | assumption | omega) (by first | assumption | omega) (by first | assumption | omega)) rfl rfl (Nat.le_of_ble_eq_true rfl) (Nat.le_of_ble_eq_true rfl) (Nat.le_of_ble_eq_true rfl) ?_
                refine q_istore (pc' := 225) (L' := [(6, q_i (s_na (qS_205 151) b)), (2, q_i (sum + (s_bd (S2 151) b 2))), (7, q_i (room - (s_bd (S2 151) b 2))), (9, q_i ((s_bd (S2 151) b 2) * (s_as (S2 151) ask 3))), (8, q_i (s_bd (S2 151) b 2)), (0, q_r Γ 150), (1, q_i b), (3, q_i (s_bd (S 151) b 4)), (4, q_i (s_bd (S 151) b 0)), (5, q_i (s_bd (S 151) b 1))]) dX9_tradedBy_223 rfl (by decide) rfl ?_
                refine q_goto (pc' := 47) dX9_tradedBy_225 rfl ?_
                refine p_sub [5, 6, 1, 7, 8, 9, 0, 2] rfl ?_
                exact qih_47 _ (by omega) n2 _ _ _ _ (by rw [qa_47_0, en, s_tbL_t ⟨by rw [← qa_47_2]; assumption, by assumption, by assumption⟩, eu, ← qa_47_2, ← e205]) (by rw [e205b]; omega) (by rfl) (by omega) (by rw [e205]; exact s_ok_trd ok2 (by omega) (by omega) b0 b1 (by omega) (by omega) (by omega)) (by rw [hqS_205]; exact s_off_u (s_off_u (s_off_u (s_off_u qa_47_5 rfl) rfl) rfl) rfl) (by exact ok5) rfl
            · refine q_aloadn (pc' := 85) 0 dX9_tradedBy_84 rfl rfl ?_
              refine q_iload (pc' := 87) 6 dX9_tradedBy_85 rfl rfl ?_
              refine q_iconst (pc' := 88) dX9_tradedBy_87 rfl ?_
              refine q_callVI (pc' := 91) dX9_tradedBy_88 rfl lX9_148 iX9_askPart kc150 rfl (c_X9_askPart (by first | assumption | omega) (by first | assumption | omega)) rfl rfl (Nat.le_of_ble_eq_true rfl) (Nat.le_of_ble_eq_true rfl) (Nat.le_of_ble_eq_true rfl) ?_
              refine q_goto (pc' := 100) dX9_tradedBy_91 rfl ?_
              refine q_istore (pc' := 102) (L' := [(8, q_i (s_as (S2 151) ask 2)), (0, q_r Γ 150), (1, q_i b), (2, q_i sum), (3, q_i (s_bd (S 151) b 4)), (4, q_i (s_bd (S 151) b 0)), (5, q_i (s_bd (S 151) b 1)), (6, q_i ask), (7, q_i room)]) dX9_tradedBy_100 rfl (by decide) rfl ?_
              refine q_iload (pc' := 104) 0 dX9_tradedBy_102 rfl rfl ?_
              refine q_iload (pc' := 106) 8 dX9_tradedBy_104 rfl rfl ?_
              refine q_icmp_ge (tgt := 114) (pc' := 109) dX9_tradedBy_106 rfl rfl (by first | assumption | omega) (by first | assumption | omega) (fun qc_106_1 => ?_) (fun qc_106_1 => ?_)
              · refine q_iload (pc' := 116) 8 dX9_tradedBy_114 rfl rfl ?_
                refine q_istore (pc' := 118) (L' := [(8, q_i room), (0, q_r Γ 150), (1, q_i b), (2, q_i sum), (3, q_i (s_bd (S 151) b 4)), (4, q_i (s_bd (S 151) b 0)), (5, q_i (s_bd (S 151) b 1)), (6, q_i ask), (7, q_i room)]) dX9_tradedBy_116 rfl (by decide) rfl ?_
                refine q_iload (pc' := 120) 0 dX9_tradedBy_118 rfl rfl ?_
                refine q_aloadn (pc' := 121) 1 dX9_tradedBy_120 rfl rfl ?_
                refine q_iload (pc' := 123) 7 dX9_tradedBy_121 rfl rfl ?_
                refine q_iconst (pc' := 124) dX9_tradedBy_123 rfl ?_
                refine q_callVI (pc' := 127) dX9_tradedBy_124 rfl lX9_148 iX9_askPart kc150 rfl (c_X9_askPart (by first | assumption | omega) (by first | assumption | omega)) rfl rfl (Nat.le_of_ble_eq_true rfl) (Nat.le_of_ble_eq_true rfl) (Nat.le_of_ble_eq_true rfl) ?_
                refine q_imul (pc' := 128) dX9_tradedBy_127 rfl ?_
                refine q_istore (pc' := 130) (L' := [(9, q_i (room * (s_as (S2 151) ask 3))), (8, q_i room), (0, q_r Γ 150), (1, q_i b), (2, q_i sum), (3, q_i (s_bd (S 151) b 4)), (4, q_i (s_bd (S 151) b 0)), (5, q_i (s_bd (S 151) b 1)), (6, q_i ask), (7, q_i room)]) dX9_tradedBy_128 rfl (by decide) rfl ?_
                obtain ⟨n2, en⟩ : ∃ n2 : Nat, n = n2 + 1 := ⟨n - 1, by omega⟩
                have eu : s_tu (S2 151, room, sum) b = room := by show min (min (s_as (S2 151) (s_na (S2 151) b) 2) (s_bd (S2 151) b 2)) room = _; rw [← qa_47_2]; omega
                have pm := q_mulb (a := room) (b := s_as (S2 151) ask 3) (A := 200) (B := 999) (by omega) (by omega) (by omega) (by omega)
                refine q_aloadn (pc' := 131) 2 dX9_tradedBy_130 rfl rfl ?_
                refine p_getR (pc' := 134) (f := 151) dX9_tradedBy_131 rfl fX9_7 kc150 rfl ?_
                refine q_sipush (pc' := 137) dX9_tradedBy_134 rfl rfl ?_
                refine q_iconst (pc' := 138) dX9_tradedBy_137 rfl ?_
                refine q_iload (pc' := 140) 8 dX9_tradedBy_138 rfl rfl ?_
                refine q_imul (pc' := 141) dX9_tradedBy_140 rfl ?_
                refine q_iadd (pc' := 142) dX9_tradedBy_141 rfl ?_
                refine q_iconst (pc' := 143) dX9_tradedBy_142 rfl ?_
                refine q_iadd (pc' := 144) dX9_tradedBy_143 rfl ?_
                refine q_dup2 (pc' := 145) dX9_tradedBy_144 rfl rfl rfl ?_
                refine p_iald (pc' := 146) dX9_tradedBy_145 rfl kc151 (by first | assumption | omega) (by first | assumption | omega) (by decide) (fun qy_145_2 eqy_145_2 rqy_145_2 => ?_)
                refine q_iload (pc' := 148) 1 dX9_tradedBy_146 rfl rfl ?_
                refine q_isub (pc' := 149) dX9_tradedBy_148 rfl ?_
                refine p_wr (fun hw148 => ?_)
                refine p_iast (pc' := 150) dX9_tradedBy_149 rfl kc151 (by first | assumption | omega) (by first | assumption | omega) (by decide) (by first | assumption | omega) ?_
                refine q_aloadn (pc' := 151) 2 dX9_tradedBy_150 rfl rfl ?_
                refine p_getR (pc' := 154) (f := 151) dX9_tradedBy_151 rfl fX9_7 kc150 rfl ?_
                refine q_sipush (pc' := 157) dX9_tradedBy_154 rfl rfl ?_
                refine q_iconst (pc' := 158) dX9_tradedBy_157 rfl ?_
                refine q_iloadn (pc' := 159) 3 dX9_tradedBy_158 rfl rfl ?_
                refine q_imul (pc' := 160) dX9_tradedBy_159 rfl ?_
                refine q_iadd (pc' := 161) dX9_tradedBy_160 rfl ?_
                refine q_iconst (pc' := 162) dX9_tradedBy_161 rfl ?_
                refine q_iadd (pc' := 163) dX9_tradedBy_162 rfl ?_
                refine q_dup2 (pc' := 164) dX9_tradedBy_163 rfl rfl rfl ?_
                refine p_iald (pc' := 165) dX9_tradedBy_164 rfl kc151 (by first | assumption | omega) (by first | assumption | omega) (by decide) (fun qy_164_2 eqy_164_2 rqy_164_2 => ?_)
                refine q_iload (pc' := 167) 1 dX9_tradedBy_165 rfl rfl ?_
                refine q_isub (pc' := 168) dX9_tradedBy_167 rfl ?_
                refine p_wr (fun hw167 => ?_)
                refine p_iast (pc' := 169) dX9_tradedBy_168 rfl kc151 (by first | assumption | omega) (by first | assumption | omega) (by decide) (by first | assumption | omega) ?_
                refine q_aloadn (pc' := 170) 2 dX9_tradedBy_169 rfl rfl ?_
                refine p_getR (pc' := 173) (f := 151) dX9_tradedBy_170 rfl fX9_7 kc150 rfl ?_
                refine q_bipush (pc' := 175) dX9_tradedBy_173 rfl rfl ?_
                refine q_iconst (pc' := 176) dX9_tradedBy_175 rfl ?_
                refine q_iloadn (pc' := 177) 5 dX9_tradedBy_176 rfl rfl ?_
                refine q_imul (pc' := 178) dX9_tradedBy_177 rfl ?_
                refine q_iadd (pc' := 179) dX9_tradedBy_178 rfl ?_
                refine q_iconst (pc' := 180) dX9_tradedBy_179 rfl ?_
                refine q_iadd (pc' := 181) dX9_tradedBy_180 rfl ?_
                refine q_dup2 (pc' := 182) dX9_tradedBy_181 rfl rfl rfl ?_
                refine p_iald (pc' := 183) dX9_tradedBy_182 rfl kc151 (by first | assumption | omega) (by first | assumption | omega) (by decide) (fun qy_182_2 eqy_182_2 rqy_182_2 => ?_)
                refine q_iload (pc' := 185) 0 dX9_tradedBy_183 rfl rfl ?_
                refine q_isub (pc' := 186) dX9_tradedBy_185 rfl ?_
                refine p_wr (fun hw185 => ?_)
                refine p_iast (pc' := 187) dX9_tradedBy_186 rfl kc151 (by first | assumption | omega) (by first | assumption | omega) (by decide) (by first | assumption | omega) ?_
                refine q_aloadn (pc' := 188) 2 dX9_tradedBy_187 rfl rfl ?_
                refine p_getR (pc' := 191) (f := 151) dX9_tradedBy_188 rfl fX9_7 kc150 rfl ?_
                refine q_bipush (pc' := 193) dX9_tradedBy_191 rfl rfl ?_
                refine q_iconst (pc' := 194) dX9_tradedBy_193 rfl ?_
                refine q_iload (pc' := 196) 6 dX9_tradedBy_194 rfl rfl ?_
                refine q_imul (pc' := 197) dX9_tradedBy_196 rfl ?_
                refine q_iadd (pc' := 198) dX9_tradedBy_197 rfl ?_
                refine q_iconst (pc' := 199) dX9_tradedBy_198 rfl ?_
                refine q_iadd (pc' := 200) dX9_tradedBy_199 rfl ?_
                refine q_dup2 (pc' := 201) dX9_tradedBy_200 rfl rfl rfl ?_
                refine p_iald (pc' := 202) dX9_tradedBy_201 rfl kc151 (by first | assumption | omega) (by first | assumption | omega) (by decide) (fun qy_201_2 eqy_201_2 rqy_201_2 => ?_)
                refine q_iload (pc' := 204) 0 dX9_tradedBy_202 rfl rfl ?_
                refine q_iadd (pc' := 205) dX9_tradedBy_204 rfl ?_
                refine p_wr (fun hw204 => ?_)
                refine p_iast (pc' := 206) dX9_tradedBy_205 rfl kc151 (by first | assumption | omega) (by first | assumption | omega) (by decide) (by first | assumption | omega) ?_
                refine q_topS (fun qS_205 hqS_205 => ?_)
                have e205 : qS_205 151 = s_trd (S2 151) ask b room := by rw [hqS_205, q_up_fn, eqy_201_2, q_up_fn, eqy_182_2, q_up_fn, eqy_164_2, q_up_fn, eqy_145_2]; unfold s_trd; rw [qa_47_6.1, qa_47_6.2.1]; rfl
                have e205b : s_bd (qS_205 151) b 2 = s_bd (S2 151) b 2 - room := by rw [e205]; exact s_trd_b ok2 (by omega) (by omega) b0 b1 (by omega) (by omega)
                have ok5 : s_bd (qS_205 151) b 4 = s_bd (S 151) b 4 ∧ s_bd (qS_205 151) b 0 = s_bd (S 151) b 0 ∧ s_bd (qS_205 151) b 1 = s_bd (S 151) b 1 := by rw [e205, ← qa_47_6.1, ← qa_47_6.2.1, ← qa_47_6.2.2]; exact ⟨s_trd_ne (by omega) (by omega) (by omega) (by omega), s_trd_ne (by omega) (by omega) (by omega) (by omega), s_trd_ne (by omega) (by omega) (by omega) (by omega)⟩
                have ok205 : s_ok (qS_205 151) := by rw [e205]; exact s_ok_trd ok2 (by omega) (by omega) b0 b1 (by omega) (by omega) (by omega)
                refine q_iload (pc' := 208) 9 dX9_tradedBy_206 rfl rfl ?_
                refine q_iload (pc' := 210) 1 dX9_tradedBy_208 rfl rfl ?_
                refine q_isub (pc' := 211) dX9_tradedBy_210 rfl ?_
                refine q_istore (pc' := 213) (L' := [(7, q_i (room - room)), (9, q_i (room * (s_as (S2 151) ask 3))), (8, q_i room), (0, q_r Γ 150), (1, q_i b), (2, q_i sum), (3, q_i (s_bd (S 151) b 4)), (4, q_i (s_bd (S 151) b 0)), (5, q_i (s_bd (S 151) b 1)), (6, q_i ask)]) dX9_tradedBy_211 rfl (by decide) rfl ?_
                refine q_iloadn (pc' := 214) 5 dX9_tradedBy_213 rfl rfl ?_
                refine q_iload (pc' := 216) 2 dX9_tradedBy_214 rfl rfl ?_
                refine q_iadd (pc' := 217) dX9_tradedBy_216 rfl ?_
                refine q_istoren (pc' := 218) (L' := [(2, q_i (sum + room)), (7, q_i (room - room)), (9, q_i (room * (s_as (S2 151) ask 3))), (8, q_i room), (0, q_r Γ 150), (1, q_i b), (3, q_i (s_bd (S 151) b 4)), (4, q_i (s_bd (S 151) b 0)), (5, q_i (s_bd (S 151) b 1)), (6, q_i ask)]) dX9_tradedBy_217 rfl rfl (by decide) rfl ?_
                refine q_aloadn (pc' := 219) 4 dX9_tradedBy_218 rfl rfl ?_
                refine q_iloadn (pc' := 220) 5 dX9_tradedBy_219 rfl rfl ?_
                refine q_callVI (pc' := 223) dX9_tradedBy_220 rfl lX9_151 iX9_nextAsk kc150 rfl (c_X9_nextAsk (by first | assumption | omega) (by first | assumption | omega) (by first | assumption | omega)) rfl rfl (Nat.le_of_ble_eq_true rfl) (Nat.le_of_ble_eq_true rfl) (Nat.le_of_ble_eq_true rfl) ?_
                refine q_istore (pc' := 225) (L' := [(6, q_i (s_na (qS_205 151) b)), (2, q_i (sum + room)), (7, q_i (room - room)), (9, q_i (room * (s_as (S2 151) ask 3))), (8, q_i room), (0, q_r Γ 150), (1, q_i b), (3, q_i (s_bd (S 151) b 4)), (4, q_i (s_bd (S 151) b 0)), (5, q_i (s_bd (S 151) b 1))]) dX9_tradedBy_223 rfl (by decide) rfl ?_
                refine q_goto (pc' := 47) dX9_tradedBy_225 rfl ?_
                refine p_sub [5, 6, 1, 7, 8, 9, 0, 2] rfl ?_
                exact qih_47 _ (by omega) n2 _ _ _ _ (by rw [qa_47_0, en, s_tbL_t ⟨by rw [← qa_47_2]; assumption, by assumption, by assumption⟩, eu, ← qa_47_2, ← e205]) (by rw [e205b]; omega) (by rfl) (by omega) (by rw [e205]; exact s_ok_trd ok2 (by omega) (by omega) b0 b1 (by omega) (by omega) (by omega)) (by rw [hqS_205]; exact s_off_u (s_off_u (s_off_u (s_off_u qa_47_5 rfl) rfl) rfl) rfl) (by exact ok5) rfl
              · refine q_iload (pc' := 111) 0 dX9_tradedBy_109 rfl rfl ?_
                refine q_goto (pc' := 116) dX9_tradedBy_111 rfl ?_
                refine q_istore (pc' := 118) (L' := [(8, q_i (s_as (S2 151) ask 2)), (0, q_r Γ 150), (1, q_i b), (2, q_i sum), (3, q_i (s_bd (S 151) b 4)), (4, q_i (s_bd (S 151) b 0)), (5, q_i (s_bd (S 151) b 1)), (6, q_i ask), (7, q_i room)]) dX9_tradedBy_116 rfl (by decide) rfl ?_
                refine q_iload (pc' := 120) 0 dX9_tradedBy_118 rfl rfl ?_
                refine q_aloadn (pc' := 121) 1 dX9_tradedBy_120 rfl rfl ?_
                refine q_iload (pc' := 123) 7 dX9_tradedBy_121 rfl rfl ?_
                refine q_iconst (pc' := 124) dX9_tradedBy_123 rfl ?_
                refine q_callVI (pc' := 127) dX9_tradedBy_124 rfl lX9_148 iX9_askPart kc150 rfl (c_X9_askPart (by first | assumption | omega) (by first | assumption | omega)) rfl rfl (Nat.le_of_ble_eq_true rfl) (Nat.le_of_ble_eq_true rfl) (Nat.le_of_ble_eq_true rfl) ?_
                refine q_imul (pc' := 128) dX9_tradedBy_127 rfl ?_
                refine q_istore (pc' := 130) (L' := [(9, q_i ((s_as (S2 151) ask 2) * (s_as (S2 151) ask 3))), (8, q_i (s_as (S2 151) ask 2)), (0, q_r Γ 150), (1, q_i b), (2, q_i sum), (3, q_i (s_bd (S 151) b 4)), (4, q_i (s_bd (S 151) b 0)), (5, q_i (s_bd (S 151) b 1)), (6, q_i ask), (7, q_i room)]) dX9_tradedBy_128 rfl (by decide) rfl ?_
                obtain ⟨n2, en⟩ : ∃ n2 : Nat, n = n2 + 1 := ⟨n - 1, by omega⟩
                have eu : s_tu (S2 151, room, sum) b = (s_as (S2 151) ask 2) := by show min (min (s_as (S2 151) (s_na (S2 151) b) 2) (s_bd (S2 151) b 2)) room = _; rw [← qa_47_2]; omega
                have pm := q_mulb (a := (s_as (S2 151) ask 2)) (b := s_as (S2 151) ask 3) (A := 200) (B := 999) (by omega) (by omega) (by omega) (by omega)
                refine q_aloadn (pc' := 131) 2 dX9_tradedBy_130 rfl rfl ?_
                refine p_getR (pc' := 134) (f := 151) dX9_tradedBy_131 rfl fX9_7 kc150 rfl ?_
                refine q_sipush (pc' := 137) dX9_tradedBy_134 rfl rfl ?_
                refine q_iconst (pc' := 138) dX9_tradedBy_137 rfl ?_
                refine q_iload (pc' := 140) 8 dX9_tradedBy_138 rfl rfl ?_
                refine q_imul (pc' := 141) dX9_tradedBy_140 rfl ?_
                refine q_iadd (pc' := 142) dX9_tradedBy_141 rfl ?_
                refine q_iconst (pc' := 143) dX9_tradedBy_142 rfl ?_
                refine q_iadd (pc' := 144) dX9_tradedBy_143 rfl ?_
                refine q_dup2 (pc' := 145) dX9_tradedBy_144 rfl rfl rfl ?_
                refine p_iald (pc' := 146) dX9_tradedBy_145 rfl kc151 (by first | assumption | omega) (by first | assumption | omega) (by decide) (fun qy_145_3 eqy_145_3 rqy_145_3 => ?_)
                refine q_iload (pc' := 148) 1 dX9_tradedBy_146 rfl rfl ?_
                refine q_isub (pc' := 149) dX9_tradedBy_148 rfl ?_
                refine p_wr (fun hw148 => ?_)
                refine p_iast (pc' := 150) dX9_tradedBy_149 rfl kc151 (by first | assumption | omega) (by first | assumption | omega) (by decide) (by first | assumption | omega) ?_
                refine q_aloadn (pc' := 151) 2 dX9_tradedBy_150 rfl rfl ?_
                refine p_getR (pc' := 154) (f := 151) dX9_tradedBy_151 rfl fX9_7 kc150 rfl ?_
                refine q_sipush (pc' := 157) dX9_tradedBy_154 rfl rfl ?_
                refine q_iconst (pc' := 158) dX9_tradedBy_157 rfl ?_
                refine q_iloadn (pc' := 159) 3 dX9_tradedBy_158 rfl rfl ?_
                refine q_imul (pc' := 160) dX9_tradedBy_159 rfl ?_
                refine q_iadd (pc' := 161) dX9_tradedBy_160 rfl ?_
                refine q_iconst (pc' := 162) dX9_tradedBy_161 rfl ?_
                refine q_iadd (pc' := 163) dX9_tradedBy_162 rfl ?_
                refine q_dup2 (pc' := 164) dX9_tradedBy_163 rfl rfl rfl ?_
                refine p_iald (pc' := 165) dX9_tradedBy_164 rfl kc151 (by first | assumption | omega) (by first | assumption | omega) (by decide) (fun qy_164_3 eqy_164_3 rqy_164_3 => ?_)
                refine q_iload (pc' := 167) 1 dX9_tradedBy_165 rfl rfl ?_
                refine q_isub (pc' := 168) dX9_tradedBy_167 rfl ?_
                refine p_wr (fun hw167 => ?_)
                refine p_iast (pc' := 169) dX9_tradedBy_168 rfl kc151 (by first | assumption | omega) (by first | assumption | omega) (by decide) (by first | assumption | omega) ?_
                refine q_aloadn (pc' := 170) 2 dX9_tradedBy_169 rfl rfl ?_
                refine p_getR (pc' := 173) (f := 151) dX9_tradedBy_170 rfl fX9_7 kc150 rfl ?_
                refine q_bipush (pc' := 175) dX9_tradedBy_173 rfl rfl ?_
                refine q_iconst (pc' := 176) dX9_tradedBy_175 rfl ?_
                refine q_iloadn (pc' := 177) 5 dX9_tradedBy_176 rfl rfl ?_
                refine q_imul (pc' := 178) dX9_tradedBy_177 rfl ?_
                refine q_iadd (pc' := 179) dX9_tradedBy_178 rfl ?_
                refine q_iconst (pc' := 180) dX9_tradedBy_179 rfl ?_
                refine q_iadd (pc' := 181) dX9_tradedBy_180 rfl ?_
                refine q_dup2 (pc' := 182) dX9_tradedBy_181 rfl rfl rfl ?_
                refine p_iald (pc' := 183) dX9_tradedBy_182 rfl kc151 (by first | assumption | omega) (by first | assumption | omega) (by decide) (fun qy_182_3 eqy_182_3 rqy_182_3 => ?_)
                refine q_iload (pc' := 185) 0 dX9_tradedBy_183 rfl rfl ?_
                refine q_isub (pc' := 186) dX9_tradedBy_185 rfl ?_
                refine p_wr (fun hw185 => ?_)
                refine p_iast (pc' := 187) dX9_tradedBy_186 rfl kc151 (by first | assumption | omega) (by first | assumption | omega) (by decide) (by first | assumption | omega) ?_
                refine q_aloadn (pc' := 188) 2 dX9_tradedBy_187 rfl rfl ?_
                refine p_getR (pc' := 191) (f := 151) dX9_tradedBy_188 rfl fX9_7 kc150 rfl ?_
                refine q_bipush (pc' := 193) dX9_tradedBy_191 rfl rfl ?_
                refine q_iconst (pc' := 194) dX9_tradedBy_193 rfl ?_
                refine q_iload (pc' := 196) 6 dX9_tradedBy_194 rfl rfl ?_
                refine q_imul (pc' := 197) dX9_tradedBy_196 rfl ?_
                refine q_iadd (pc' := 198) dX9_tradedBy_197 rfl ?_
                refine q_iconst (pc' := 199) dX9_tradedBy_198 rfl ?_
                refine q_iadd (pc' := 200) dX9_tradedBy_199 rfl ?_
                refine q_dup2 (pc' := 201) dX9_tradedBy_200 rfl rfl rfl ?_
                refine p_iald (pc' := 202) dX9_tradedBy_201 rfl kc151 (by first | assumption | omega) (by first | assumption | omega) (by decide) (fun qy_201_3 eqy_201_3 rqy_201_3 => ?_)
                refine q_iload (pc' := 204) 0 dX9_tradedBy_202 rfl rfl ?_
                refine q_iadd (pc' := 205) dX9_tradedBy_204 rfl ?_
                refine p_wr (fun hw204 => ?_)
                refine p_iast (pc' := 206) dX9_tradedBy_205 rfl kc151 (by first | assumption | omega) (by first | assumption | omega) (by decide) (by first | assumption | omega) ?_
                refine q_topS (fun qS_205 hqS_205 => ?_)
                have e205 : qS_205 151 = s_trd (S2 151) ask b (s_as (S2 151) ask 2) := by rw [hqS_205, q_up_fn, eqy_201_3, q_up_fn, eqy_182_3, q_up_fn, eqy_164_3, q_up_fn, eqy_145_3]; unfold s_trd; rw [qa_47_6.1, qa_47_6.2.1]; rfl
                have e205b : s_bd (qS_205 151) b 2 = s_bd (S2 151) b 2 - (s_as (S2 151) ask 2) := by rw [e205]; exact s_trd_b ok2 (by omega) (by omega) b0 b1 (by omega) (by omega)
                have ok5 : s_bd (qS_205 151) b 4 = s_bd (S 151) b 4 ∧ s_bd (qS_205 151) b 0 = s_bd (S 151) b 0 ∧ s_bd (qS_205 151) b 1 = s_bd (S 151) b 1 := by rw [e205, ← qa_47_6.1, ← qa_47_6.2.1, ← qa_47_6.2.2]; exact ⟨s_trd_ne (by omega) (by omega) (by omega) (by omega), s_trd_ne (by omega) (by omega) (by omega) (by omega), s_trd_ne (by omega) (by omega) (by omega) (by omega)⟩
                have ok205 : s_ok (qS_205 151) := by rw [e205]; exact s_ok_trd ok2 (by omega) (by omega) b0 b1 (by omega) (by omega) (by omega)
                refine q_iload (pc' := 208) 9 dX9_tradedBy_206 rfl rfl ?_
                refine q_iload (pc' := 210) 1 dX9_tradedBy_208 rfl rfl ?_
                refine q_isub (pc' := 211) dX9_tradedBy_210 rfl ?_
                refine q_istore (pc' := 213) (L' := [(7, q_i (room - (s_as (S2 151) ask 2))), (9, q_i ((s_as (S2 151) ask 2) * (s_as (S2 151) ask 3))), (8, q_i (s_as (S2 151) ask 2)), (0, q_r Γ 150), (1, q_i b), (2, q_i sum), (3, q_i (s_bd (S 151) b 4)), (4, q_i (s_bd (S 151) b 0)), (5, q_i (s_bd (S 151) b 1)), (6, q_i ask)]) dX9_tradedBy_211 rfl (by decide) rfl ?_
                refine q_iloadn (pc' := 214) 5 dX9_tradedBy_213 rfl rfl ?_
                refine q_iload (pc' := 216) 2 dX9_tradedBy_214 rfl rfl ?_
                refine q_iadd (pc' := 217) dX9_tradedBy_216 rfl ?_
                refine q_istoren (pc' := 218) (L' := [(2, q_i (sum + (s_as (S2 151) ask 2))), (7, q_i (room - (s_as (S2 151) ask 2))), (9, q_i ((s_as (S2 151) ask 2) * (s_as (S2 151) ask 3))), (8, q_i (s_as (S2 151) ask 2)), (0, q_r Γ 150), (1, q_i b), (3, q_i (s_bd (S 151) b 4)), (4, q_i (s_bd (S 151) b 0)), (5, q_i (s_bd (S 151) b 1)), (6, q_i ask)]) dX9_tradedBy_217 rfl rfl (by decide) rfl ?_
                refine q_aloadn (pc' := 219) 4 dX9_tradedBy_218 rfl rfl ?_
                refine q_iloadn (pc' := 220) 5 dX9_tradedBy_219 rfl rfl ?_
                refine q_callVI (pc' := 223) dX9_tradedBy_220 rfl lX9_151 iX9_nextAsk kc150 rfl (c_X9_nextAsk (by first | assumption | omega) (by first | assumption | omega) (by first | assumption | omega)) rfl rfl (Nat.le_of_ble_eq_true rfl) (Nat.le_of_ble_eq_true rfl) (Nat.le_of_ble_eq_true rfl) ?_
                refine q_istore (pc' := 225) (L' := [(6, q_i (s_na (qS_205 151) b)), (2, q_i (sum + (s_as (S2 151) ask 2))), (7, q_i (room - (s_as (S2 151) ask 2))), (9, q_i ((s_as (S2 151) ask 2) * (s_as (S2 151) ask 3))), (8, q_i (s_as (S2 151) ask 2)), (0, q_r Γ 150), (1, q_i b), (3, q_i (s_bd (S 151) b 4)), (4, q_i (s_bd (S 151) b 0)), (5, q_i (s_bd (S 151) b 1))]) dX9_tradedBy_223 rfl (by decide) rfl ?_
                refine q_goto (pc' := 47) dX9_tradedBy_225 rfl ?_
                refine p_sub [5, 6, 1, 7, 8, 9, 0, 2] rfl ?_
                exact qih_47 _ (by omega) n2 _ _ _ _ (by rw [qa_47_0, en, s_tbL_t ⟨by rw [← qa_47_2]; assumption, by assumption, by assumption⟩, eu, ← qa_47_2, ← e205]) (by rw [e205b]; omega) (by rfl) (by omega) (by rw [e205]; exact s_ok_trd ok2 (by omega) (by omega) b0 b1 (by omega) (by omega) (by omega)) (by rw [hqS_205]; exact s_off_u (s_off_u (s_off_u (s_off_u qa_47_5 rfl) rfl) rfl) rfl) (by exact ok5) rfl
  refine p_sub [6, 7, 5, 4, 3, 2, 1, 0] rfl ?_
  exact qlp_47 _ 201 _ _ _ _ (by rfl) (by omega) (by rfl) (by omega) (by first | assumption | omega) (by exact s_off_r) (by exact ⟨rfl, rfl, rfl⟩) rfl
