set_option maxRecDepth 20000 in
set_option maxHeartbeats 4000000 in
theorem c_X8_carryOneOut {Γ : q_G} {S : q_S} {φ : Int → Int} {l a b c e f : Int} (FF : s_F S 1 φ) (ok : s_ok φ) (pz : s_pz φ) (hk : S 27 2 = l) (hl : l = 116 ∨ l = 119 ∨ l = 97 ∨ l = 98 ∨ l = 109) (hw : l = 119 → (0 ≤ a ∧ a ≤ 9) ∧ (0 ≤ b ∧ b ≤ 9)) (g1 : l = 116 ∨ l = 119 → S 28 0 = a ∧ S 28 1 = b) (g2 : l = 97 → S 28 0 = a ∧ S 28 1 = c ∧ S 28 2 = e ∧ S 28 3 = f) (g3 : l = 98 → S 28 0 = a ∧ S 28 1 = b ∧ S 28 2 = c ∧ S 28 3 = e ∧ S 28 4 = f) : q_Sp Γ mX8_carryOneOut 4 0 0 [q_r Γ 0] (KC, S) (fun v9 w9 => ∃ y, v9 = some (q_i y) ∧ q_rg y ∧ ((y < 0 → s_doV φ l a b c e f = 0) ∧ (0 ≤ y → s_doV φ l a b c e f = 1)) ∧ ∃ S2, w9 = (KC, S2) ∧ s_F S2 1 (s_doP φ l a b c e f) ∧ s_offF S S2) := by
  show q_Go Γ mX8_carryOneOut 4 0 0 0 [(0, q_r Γ 0)] [] (KC, S) (fun v9 w9 => ∃ y, v9 = some (q_i y) ∧ q_rg y ∧ ((y < 0 → s_doV φ l a b c e f = 0) ∧ (0 ≤ y → s_doV φ l a b c e f = 1)) ∧ ∃ S2, w9 = (KC, S2) ∧ s_F S2 1 (s_doP φ l a b c e f) ∧ s_offF S S2)
  have rw0 := s_rows_b ok
  refine p_rng (fun hrg => ?_)
  refine q_aloadn (pc' := 1) 0 dX8_carryOneOut_0 rfl rfl ?_
  refine p_getR (pc' := 4) (f := 27) dX8_carryOneOut_1 rfl fX8_53 kc0 rfl ?_
  refine p_getR (pc' := 7) (f := 28) dX8_carryOneOut_4 rfl fX8_263 kc27 rfl ?_
  refine q_astoren (pc' := 8) (L' := [(1, q_r Γ 28), (0, q_r Γ 0)]) dX8_carryOneOut_7 rfl rfl (by decide) rfl ?_
  refine q_aloadn (pc' := 9) 1 dX8_carryOneOut_8 rfl rfl ?_
  refine p_getR (pc' := 12) (f := 27) dX8_carryOneOut_9 rfl fX8_53 kc0 rfl ?_
  refine p_getJ (pc' := 15) (kz := 2) dX8_carryOneOut_12 rfl fX8_266 kc27 rfl rfl (fun qy_12 eqy_12 rqy_12 => ?_)
  have e12 : qy_12 = l := eqy_12.trans hk
  by_cases qs_15 : qy_12 = 97
  · subst qs_15
    refine q_lookup (pc' := 84) (off := 69) dX8_carryOneOut_15 (by decide) rfl rfl rfl ?_
    have ng := g2 (by omega)
    refine q_aloadn (pc' := 85) 1 dX8_carryOneOut_84 rfl rfl ?_
    refine p_getR (pc' := 88) (f := 19) dX8_carryOneOut_85 rfl fX8_28 kc0 rfl ?_
    refine q_aloadn (pc' := 89) 0 dX8_carryOneOut_88 rfl rfl ?_
    refine q_iconst (pc' := 90) dX8_carryOneOut_89 rfl ?_
    refine p_iald (pc' := 91) dX8_carryOneOut_90 rfl kc28 (by first | assumption | omega) (by first | assumption | omega) (by decide) (fun qy_90 eqy_90 rqy_90 => ?_)
    rw [show qy_90 = a from eqy_90.trans ng.1]
    have r_a : q_rg a := by rw [← ng.1]; exact hrg 28 _
    refine q_aloadn (pc' := 92) 0 dX8_carryOneOut_91 rfl rfl ?_
    refine q_iconst (pc' := 93) dX8_carryOneOut_92 rfl ?_
    refine p_iald (pc' := 94) dX8_carryOneOut_93 rfl kc28 (by first | assumption | omega) (by first | assumption | omega) (by decide) (fun qy_93 eqy_93 rqy_93 => ?_)
    rw [show qy_93 = c from eqy_93.trans ng.2.1]
    have r_c : q_rg c := by rw [← ng.2.1]; exact hrg 28 _
    refine q_aloadn (pc' := 95) 0 dX8_carryOneOut_94 rfl rfl ?_
    refine q_iconst (pc' := 96) dX8_carryOneOut_95 rfl ?_
    refine p_iald (pc' := 97) dX8_carryOneOut_96 rfl kc28 (by first | assumption | omega) (by first | assumption | omega) (by decide) (fun qy_96 eqy_96 rqy_96 => ?_)
    rw [show qy_96 = e from eqy_96.trans ng.2.2.1]
    have r_e : q_rg e := by rw [← ng.2.2.1]; exact hrg 28 _
    refine q_aloadn (pc' := 98) 0 dX8_carryOneOut_97 rfl rfl ?_
    refine q_iconst (pc' := 99) dX8_carryOneOut_98 rfl ?_
    refine p_iald (pc' := 100) dX8_carryOneOut_99 rfl kc28 (by first | assumption | omega) (by first | assumption | omega) (by decide) (fun qy_99 eqy_99 rqy_99 => ?_)
    rw [show qy_99 = f from eqy_99.trans ng.2.2.2]
    have r_f : q_rg f := by rw [← ng.2.2.2]; exact hrg 28 _
    refine q_callVQ (pc' := 103) dX8_carryOneOut_100 rfl lX8_97 iX3_addAsk kc19 rfl (c_X3_addAsk FF ok r_a r_c r_e r_f) rfl rfl (Nat.le_of_ble_eq_true rfl) (Nat.le_of_ble_eq_true rfl) (Nat.le_of_ble_eq_true rfl) (fun vq wq hq => ?_)
    obtain ⟨rfl, qS100, rfl, qF100, qo100⟩ := hq
    show q_Go Γ mX8_carryOneOut 4 0 0 103 [(1, q_r Γ 28), (0, q_r Γ 0)] [q_i (s_askV φ a c e f)] (KC, qS100) (fun v9 w9 => ∃ y, v9 = some (q_i y) ∧ q_rg y ∧ ((y < 0 → s_doV φ l a b c e f = 0) ∧ (0 ≤ y → s_doV φ l a b c e f = 1)) ∧ ∃ S2, w9 = (KC, S2) ∧ s_F S2 1 (s_doP φ l a b c e f) ∧ s_offF S S2)
    exact (fun hd => q_iret dX8_carryOneOut_103 rfl rfl ⟨_, rfl, s_rg_ask ok a c e f, ⟨hd.1, hd.2.1⟩, _, rfl, by rw [hd.2.2]; exact qF100, qo100⟩) (s_do_a (a := a) (b := b) (c := c) (e := e) (f := f) ok (show l = 97 by omega))
  · by_cases qs_15_1 : qy_12 = 98
    · subst qs_15_1
      refine q_lookup (pc' := 104) (off := 89) dX8_carryOneOut_15 (by decide) rfl rfl rfl ?_
      have ng := g3 (by omega)
      refine q_aloadn (pc' := 105) 1 dX8_carryOneOut_104 rfl rfl ?_
      refine p_getR (pc' := 108) (f := 19) dX8_carryOneOut_105 rfl fX8_28 kc0 rfl ?_
      refine q_aloadn (pc' := 109) 0 dX8_carryOneOut_108 rfl rfl ?_
      refine q_iconst (pc' := 110) dX8_carryOneOut_109 rfl ?_
      refine p_iald (pc' := 111) dX8_carryOneOut_110 rfl kc28 (by first | assumption | omega) (by first | assumption | omega) (by decide) (fun qy_110 eqy_110 rqy_110 => ?_)
      rw [show qy_110 = a from eqy_110.trans ng.1]
      have r_a : q_rg a := by rw [← ng.1]; exact hrg 28 _
      refine q_aloadn (pc' := 112) 0 dX8_carryOneOut_111 rfl rfl ?_
      refine q_iconst (pc' := 113) dX8_carryOneOut_112 rfl ?_
      refine p_iald (pc' := 114) dX8_carryOneOut_113 rfl kc28 (by first | assumption | omega) (by first | assumption | omega) (by decide) (fun qy_113 eqy_113 rqy_113 => ?_)
      rw [show qy_113 = b from eqy_113.trans ng.2.1]
      have r_b : q_rg b := by rw [← ng.2.1]; exact hrg 28 _
      refine q_aloadn (pc' := 115) 0 dX8_carryOneOut_114 rfl rfl ?_
      refine q_iconst (pc' := 116) dX8_carryOneOut_115 rfl ?_
      refine p_iald (pc' := 117) dX8_carryOneOut_116 rfl kc28 (by first | assumption | omega) (by first | assumption | omega) (by decide) (fun qy_116 eqy_116 rqy_116 => ?_)
      rw [show qy_116 = c from eqy_116.trans ng.2.2.1]
      have r_c : q_rg c := by rw [← ng.2.2.1]; exact hrg 28 _
      refine q_aloadn (pc' := 118) 0 dX8_carryOneOut_117 rfl rfl ?_
      refine q_iconst (pc' := 119) dX8_carryOneOut_118 rfl ?_
      refine p_iald (pc' := 120) dX8_carryOneOut_119 rfl kc28 (by first | assumption | omega) (by first | assumption | omega) (by decide) (fun qy_119 eqy_119 rqy_119 => ?_)
      rw [show qy_119 = e from eqy_119.trans ng.2.2.2.1]
      have r_e : q_rg e := by rw [← ng.2.2.2.1]; exact hrg 28 _
      refine q_aloadn (pc' := 121) 0 dX8_carryOneOut_120 rfl rfl ?_
      refine q_iconst (pc' := 122) dX8_carryOneOut_121 rfl ?_
      refine p_iald (pc' := 123) dX8_carryOneOut_122 rfl kc28 (by first | assumption | omega) (by first | assumption | omega) (by decide) (fun qy_122 eqy_122 rqy_122 => ?_)
      rw [show qy_122 = f from eqy_122.trans ng.2.2.2.2]
      have r_f : q_rg f := by rw [← ng.2.2.2.2]; exact hrg 28 _
      refine q_callVQ (pc' := 126) dX8_carryOneOut_123 rfl lX8_100 iX3_addBid kc19 rfl (c_X3_addBid FF ok r_a r_b r_c r_e r_f) rfl rfl (Nat.le_of_ble_eq_true rfl) (Nat.le_of_ble_eq_true rfl) (Nat.le_of_ble_eq_true rfl) (fun vq wq hq => ?_)
      obtain ⟨rfl, qS123, rfl, qF123, qo123⟩ := hq
      show q_Go Γ mX8_carryOneOut 4 0 0 126 [(1, q_r Γ 28), (0, q_r Γ 0)] [q_i (s_bidV φ a b c e f)] (KC, qS123) (fun v9 w9 => ∃ y, v9 = some (q_i y) ∧ q_rg y ∧ ((y < 0 → s_doV φ l a b c e f = 0) ∧ (0 ≤ y → s_doV φ l a b c e f = 1)) ∧ ∃ S2, w9 = (KC, S2) ∧ s_F S2 1 (s_doP φ l a b c e f) ∧ s_offF S S2)
      exact (fun hd => q_iret dX8_carryOneOut_126 rfl rfl ⟨_, rfl, s_rg_bid ok a b c e f, ⟨hd.1, hd.2.1⟩, _, rfl, by rw [hd.2.2]; exact qF123, qo123⟩) (s_do_b (a := a) (b := b) (c := c) (e := e) (f := f) ok (show l = 98 by omega))
    · by_cases qs_15_2 : qy_12 = 116
      · subst qs_15_2
        refine q_lookup (pc' := 56) (off := 41) dX8_carryOneOut_15 (by decide) rfl rfl rfl ?_
        have ng := g1 (by omega)
        refine q_aloadn (pc' := 57) 1 dX8_carryOneOut_56 rfl rfl ?_
        refine p_getR (pc' := 60) (f := 1) dX8_carryOneOut_57 rfl fX8_10 kc0 rfl ?_
        refine q_aloadn (pc' := 61) 0 dX8_carryOneOut_60 rfl rfl ?_
        refine q_iconst (pc' := 62) dX8_carryOneOut_61 rfl ?_
        refine p_iald (pc' := 63) dX8_carryOneOut_62 rfl kc28 (by first | assumption | omega) (by first | assumption | omega) (by decide) (fun qy_62 eqy_62 rqy_62 => ?_)
        rw [show qy_62 = a from eqy_62.trans ng.1]
        have r_a : q_rg a := by rw [← ng.1]; exact hrg 28 _
        refine q_aloadn (pc' := 64) 0 dX8_carryOneOut_63 rfl rfl ?_
        refine q_iconst (pc' := 65) dX8_carryOneOut_64 rfl ?_
        refine p_iald (pc' := 66) dX8_carryOneOut_65 rfl kc28 (by first | assumption | omega) (by first | assumption | omega) (by decide) (fun qy_65 eqy_65 rqy_65 => ?_)
        rw [show qy_65 = b from eqy_65.trans ng.2]
        have r_b : q_rg b := by rw [← ng.2]; exact hrg 28 _
        refine q_callVQ (pc' := 69) dX8_carryOneOut_66 rfl lX8_83 iX0_changeTilt kc1 rfl (c_X0_changeTilt FF ok r_a r_b) rfl rfl (Nat.le_of_ble_eq_true rfl) (Nat.le_of_ble_eq_true rfl) (Nat.le_of_ble_eq_true rfl) (fun vq wq hq => ?_)
        obtain ⟨rfl, qS66, rfl, qF66, qo66⟩ := hq
        show q_Go Γ mX8_carryOneOut 4 0 0 69 [(1, q_r Γ 28), (0, q_r Γ 0)] [q_i (s_tiltV φ a b)] (KC, qS66) (fun v9 w9 => ∃ y, v9 = some (q_i y) ∧ q_rg y ∧ ((y < 0 → s_doV φ l a b c e f = 0) ∧ (0 ≤ y → s_doV φ l a b c e f = 1)) ∧ ∃ S2, w9 = (KC, S2) ∧ s_F S2 1 (s_doP φ l a b c e f) ∧ s_offF S S2)
        exact (fun hd => q_iret dX8_carryOneOut_69 rfl rfl ⟨_, rfl, s_rg_tilt ok a b, ⟨hd.1, hd.2.1⟩, _, rfl, by rw [hd.2.2]; exact qF66, qo66⟩) (s_do_t (b := b) (c := c) (e := e) (f := f) ok pz (show l = 116 by omega))
      · by_cases qs_15_3 : qy_12 = 119
        · subst qs_15_3
          refine q_lookup (pc' := 70) (off := 55) dX8_carryOneOut_15 (by decide) rfl rfl rfl ?_
          have ng := g1 (by omega)
          refine q_aloadn (pc' := 71) 1 dX8_carryOneOut_70 rfl rfl ?_
          refine p_getR (pc' := 74) (f := 1) dX8_carryOneOut_71 rfl fX8_10 kc0 rfl ?_
          refine q_aloadn (pc' := 75) 0 dX8_carryOneOut_74 rfl rfl ?_
          refine q_iconst (pc' := 76) dX8_carryOneOut_75 rfl ?_
          refine p_iald (pc' := 77) dX8_carryOneOut_76 rfl kc28 (by first | assumption | omega) (by first | assumption | omega) (by decide) (fun qy_76 eqy_76 rqy_76 => ?_)
          rw [show qy_76 = a from eqy_76.trans ng.1]
          have r_a : q_rg a := by rw [← ng.1]; exact hrg 28 _
          refine q_aloadn (pc' := 78) 0 dX8_carryOneOut_77 rfl rfl ?_
          refine q_iconst (pc' := 79) dX8_carryOneOut_78 rfl ?_
          refine p_iald (pc' := 80) dX8_carryOneOut_79 rfl kc28 (by first | assumption | omega) (by first | assumption | omega) (by decide) (fun qy_79 eqy_79 rqy_79 => ?_)
          rw [show qy_79 = b from eqy_79.trans ng.2]
          have r_b : q_rg b := by rw [← ng.2]; exact hrg 28 _
          refine q_callVQ (pc' := 83) dX8_carryOneOut_80 rfl lX8_87 iX0_changeWind kc1 rfl (c_X0_changeWind FF ok r_a r_b) rfl rfl (Nat.le_of_ble_eq_true rfl) (Nat.le_of_ble_eq_true rfl) (Nat.le_of_ble_eq_true rfl) (fun vq wq hq => ?_)
          obtain ⟨rfl, qS80, rfl, qF80, qo80⟩ := hq
          show q_Go Γ mX8_carryOneOut 4 0 0 83 [(1, q_r Γ 28), (0, q_r Γ 0)] [q_i (s_windV φ a b)] (KC, qS80) (fun v9 w9 => ∃ y, v9 = some (q_i y) ∧ q_rg y ∧ ((y < 0 → s_doV φ l a b c e f = 0) ∧ (0 ≤ y → s_doV φ l a b c e f = 1)) ∧ ∃ S2, w9 = (KC, S2) ∧ s_F S2 1 (s_doP φ l a b c e f) ∧ s_offF S S2)
          exact (fun hd => q_iret dX8_carryOneOut_83 rfl rfl ⟨_, rfl, s_rg_wind ok a b, ⟨fun g => by have := hd.1; omega, fun _ => hd.2.1⟩, _, rfl, by rw [hd.2.2]; exact qF80, qo80⟩) (s_do_w (c := c) (e := e) (f := f) ok (show l = 119 by omega) (hw (by omega)).1 (hw (by omega)).2)
        · refine q_lookup (pc' := 127) (off := 112) dX8_carryOneOut_15 (by first | assumption | omega) rfl (by simp [Op.lookupswitch.offset, Ne.symm qs_15, Ne.symm qs_15_1, Ne.symm qs_15_2, Ne.symm qs_15_3]) rfl ?_
          refine q_aloadn (pc' := 128) 1 dX8_carryOneOut_127 rfl rfl ?_
          refine p_getR (pc' := 131) (f := 19) dX8_carryOneOut_128 rfl fX8_28 kc0 rfl ?_
          refine q_callVQ (pc' := 134) dX8_carryOneOut_131 rfl lX8_117 iX3_tradeAll kc19 rfl (c_X3_tradeAll FF ok) rfl rfl (Nat.le_of_ble_eq_true rfl) (Nat.le_of_ble_eq_true rfl) (Nat.le_of_ble_eq_true rfl) (fun vq wq hq => ?_)
          obtain ⟨rfl, qS131, rfl, qF131, qo131⟩ := hq
          show q_Go Γ mX8_carryOneOut 4 0 0 134 [(1, q_r Γ 28), (0, q_r Γ 0)] [q_i (s_matV φ)] (KC, qS131) (fun v9 w9 => ∃ y, v9 = some (q_i y) ∧ q_rg y ∧ ((y < 0 → s_doV φ l a b c e f = 0) ∧ (0 ≤ y → s_doV φ l a b c e f = 1)) ∧ ∃ S2, w9 = (KC, S2) ∧ s_F S2 1 (s_doP φ l a b c e f) ∧ s_offF S S2)
          exact (fun hd => q_iret dX8_carryOneOut_134 rfl rfl ⟨_, rfl, s_rg_mat ok pz, ⟨fun g => by have := hd.1; omega, fun _ => hd.2.1⟩, _, rfl, by rw [hd.2.2]; exact qF131, qo131⟩) (s_do_m (a := a) (b := b) (c := c) (e := e) (f := f) ok pz (show l = 109 by omega))
set_option maxRecDepth 20000 in
set_option maxHeartbeats 4000000 in
theorem c_X8_carryOrdersOut {Γ : q_G} {S : q_S} {φ : Int → Int} {P : Int → Int} {N : Int} (FF : s_F S 1 φ) (ok : s_ok φ) (pz : s_pz φ) (pd : s_pdC S P) (hN : S 25 1 = N) (hff : s_ff P N = -6) : q_Sp Γ mX8_carryOrdersOut 5 0 0 [q_r Γ 0] (KC, S) (fun v9 w9 => v9 = some (q_i (s_co P N φ).2) ∧ s_ok (s_co P N φ).1 ∧ s_pz (s_co P N φ).1 ∧ ∃ S2, w9 = (KC, S2) ∧ s_F S2 1 (s_co P N φ).1 ∧ s_offX S S2) := by
  show q_Go Γ mX8_carryOrdersOut 5 0 0 0 [(0, q_r Γ 0)] [] (KC, S) (fun v9 w9 => v9 = some (q_i (s_co P N φ).2) ∧ s_ok (s_co P N φ).1 ∧ s_pz (s_co P N φ).1 ∧ ∃ S2, w9 = (KC, S2) ∧ s_F S2 1 (s_co P N φ).1 ∧ s_offX S S2)
  have pl := pd.1
  have pN := pd.2.2.1
  refine q_iconst (pc' := 1) dX8_carryOrdersOut_0 rfl ?_
  refine q_istoren (pc' := 2) (L' := [(1, q_i 0), (0, q_r Γ 0)]) dX8_carryOrdersOut_1 rfl rfl (by decide) rfl ?_
  refine q_aloadn (pc' := 3) 1 dX8_carryOrdersOut_2 rfl rfl ?_
  refine p_getR (pc' := 6) (f := 27) dX8_carryOrdersOut_3 rfl fX8_53 kc0 rfl ?_
  refine q_callVV (pc' := 9) dX8_carryOrdersOut_6 rfl lX8_249 iX5_start kc27 rfl c_X5_start rfl rfl (Nat.le_of_ble_eq_true rfl) (Nat.le_of_ble_eq_true rfl) (Nat.le_of_ble_eq_true rfl) ?_
  refine q_iconst (pc' := 10) dX8_carryOrdersOut_9 rfl ?_
  refine q_istoren (pc' := 11) (L' := [(2, q_i 0), (1, q_i 0), (0, q_r Γ 0)]) dX8_carryOrdersOut_10 rfl rfl (by decide) rfl ?_
  have qlp_11 : ∀ (qn_11 : Nat) (S3 : q_S) (ps : Int → Int) (z k : Int) (n : Nat), (S3 27 1 = z) → (0 ≤ k ∧ k ≤ z ∧ z ≤ 80) → (s_pdC S3 P) → (s_F S3 1 ps) → (s_ok ps) → (s_pz ps) → (s_gz P N z) → (s_coL P N n ps z k = s_co P N φ) → (82 ≤ z + n) → (s_offX S S3) → ((81 - k).toNat) = qn_11 → q_Go Γ mX8_carryOrdersOut 5 0 0 11 [(0, q_r Γ 0), (1, q_i k), (2, q_i k)] [] (KC, S3) (fun v9 w9 => v9 = some (q_i (s_co P N φ).2) ∧ s_ok (s_co P N φ).1 ∧ s_pz (s_co P N φ).1 ∧ ∃ S2, w9 = (KC, S2) ∧ s_F S2 1 (s_co P N φ).1 ∧ s_offX S S2) := by
    intro qn_11
    induction qn_11 using Nat.strongRecOn with
    | ind qn_11 qih_11 =>
      intro S3 ps z k n qa_11_0 qa_11_1 qa_11_2 qa_11_3 qa_11_4 qa_11_5 qa_11_6 qa_11_7 qa_11_8 qa_11_9 qhn_11
      subst qhn_11
      refine q_iloadn (pc' := 12) 2 dX8_carryOrdersOut_11 rfl rfl ?_
      refine q_bipush (pc' := 14) dX8_carryOrdersOut_12 rfl rfl ?_
      refine q_icmp_gt (tgt := 59) (pc' := 17) dX8_carryOrdersOut_14 rfl rfl (by first | assumption | omega) (by decide) (fun qc_14 => ?_) (fun qc_14 => ?_)
      · refine q_iloadn (pc' := 60) 1 dX8_carryOrdersOut_59 rfl rfl ?_
        exact absurd qa_11_1 (by omega)
      · refine q_aloadn (pc' := 18) 0 dX8_carryOrdersOut_17 rfl rfl ?_
        refine p_getR (pc' := 21) (f := 27) dX8_carryOrdersOut_18 rfl fX8_53 kc0 rfl ?_
        refine q_callVQ (pc' := 24) dX8_carryOrdersOut_21 rfl lX8_252 iX5_readOrder kc27 rfl (c_X5_readOrder (P := P) (z := z) (by first | assumption | (repeat (refine s_pdC_u (by decide) (by decide) ?_); assumption)) (by first | assumption | (simp [q_up]; done) | (simp [q_up]; assumption)) (by first | assumption | omega) (by first | assumption | omega)) rfl rfl (Nat.le_of_ble_eq_true rfl) (Nat.le_of_ble_eq_true rfl) (Nat.le_of_ble_eq_true rfl) (fun vq wq hq => ?_)
        rcases hq with ⟨rfl, qS21, rfl, qo21, qa21, qd21, qz21, qy21⟩ | ⟨rfl, qS21, rfl, qo21, qa21, qd21, qz21, qk21, qe21, qf21, qg21⟩
        · exact absurd (s_gz_ok qa_11_6 (by omega) (by omega)) (by assumption)
        · show q_Go Γ mX8_carryOrdersOut 5 0 0 24 [(0, q_r Γ 0), (1, q_i k), (2, q_i k)] [q_i 1] (KC, qS21) (fun v9 w9 => v9 = some (q_i (s_co P N φ).2) ∧ s_ok (s_co P N φ).1 ∧ s_pz (s_co P N φ).1 ∧ ∃ S2, w9 = (KC, S2) ∧ s_F S2 1 (s_co P N φ).1 ∧ s_offX S S2)
          have qlx21 := s_odOk_l (P := P) (z := z) (by assumption)
          have qX21 := s_offX_R qo21
          have qFF21 : s_F qS21 1 ps := s_F_o qa_11_3 (fun a h1 h2 _ => qo21 a (by omega) (by omega))
          have qpd21 := s_pdC_o qo21 (by assumption)
          refine q_if_eq (tgt := 34) (pc' := 27) dX8_carryOrdersOut_24 rfl rfl (by decide) (fun qc_24 => absurd qc_24 (by decide)) (fun qc_24 => ?_)
          refine q_aloadn (pc' := 28) 0 dX8_carryOrdersOut_27 rfl rfl ?_
          have hzN : z < N := by have h := s_odAt_N (N := N) (fun y hy => pN y (by omega)) (show s_odOk P z by assumption); omega
          refine q_callVQ (pc' := 31) dX8_carryOrdersOut_28 rfl lX8_256 iX8_carryOneOut kc0 rfl (c_X8_carryOneOut (l := P z) (a := s_o1 P z) (b := s_o2 P z) (c := s_o3 P z) (e := s_o4 P z) (f := s_o5 P z) qFF21 qa_11_4 qa_11_5 qk21 qlx21.1 qlx21.2 qe21 qf21 qg21) rfl rfl (Nat.le_of_ble_eq_true rfl) (Nat.le_of_ble_eq_true rfl) (Nat.le_of_ble_eq_true rfl) (fun vq wq hq => ?_)
          obtain ⟨qy28, rfl, qr28, qd28, qS28, rfl, qF28, qo28⟩ := hq
          have qa28 : qS28 27 1 = s_odAt P z := by rw [qo28 27 (by decide)]; assumption
          have qpd28 : s_pdC qS28 P := by have q := qpd21; unfold s_pdC at q ⊢; rw [qo28 25 (by decide), qo28 26 (by decide)]; exact q
          have okd : s_ok (s_dp P ps z) := s_ok_do qa_11_4 qlx21.2
          have pzd : s_pz (s_dp P ps z) := s_pz_do qa_11_4 qa_11_5 qlx21.2
          have qX28 := s_offX_F qo28
          show q_Go Γ mX8_carryOrdersOut 5 0 0 31 [(0, q_r Γ 0), (1, q_i k), (2, q_i k)] [q_i qy28] (KC, qS28) (fun v9 w9 => v9 = some (q_i (s_co P N φ).2) ∧ s_ok (s_co P N φ).1 ∧ s_pz (s_co P N φ).1 ∧ ∃ S2, w9 = (KC, S2) ∧ s_F S2 1 (s_co P N φ).1 ∧ s_offX S S2)
          refine q_if_ge (tgt := 36) (pc' := 34) dX8_carryOrdersOut_31 rfl rfl (by first | assumption | omega) (fun qc_31 => ?_) (fun qc_31 => ?_)
          · refine q_iinc (pc' := 39) 1 (L' := [(1, q_i (k + 1)), (0, q_r Γ 0), (2, q_i k)]) dX8_carryOrdersOut_36 rfl rfl (by decide) rfl ?_
            refine q_aloadn (pc' := 40) 1 dX8_carryOrdersOut_39 rfl rfl ?_
            refine p_getR (pc' := 43) (f := 27) dX8_carryOrdersOut_40 rfl fX8_53 kc0 rfl ?_
            refine q_bipush (pc' := 45) dX8_carryOrdersOut_43 rfl rfl ?_
            refine q_callVQ (pc' := 48) dX8_carryOrdersOut_45 rfl lX8_259 iX5_readSign kc27 rfl (c_X5_readSign (P := P) (z := s_odAt P z) (by first | assumption | (repeat (refine s_pdC_u (by decide) (by decide) ?_); assumption)) (by first | assumption | (simp [q_up]; done) | (simp [q_up]; assumption)) (by first | assumption | omega) (by first | assumption | omega) (by first | assumption | omega) (by first | assumption | omega)) rfl rfl (Nat.le_of_ble_eq_true rfl) (Nat.le_of_ble_eq_true rfl) (Nat.le_of_ble_eq_true rfl) (fun vq wq hq => ?_)
            rcases hq with ⟨rfl, rfl, qd45⟩ | ⟨rfl, rfl, qd45, qz45⟩
            · show q_Go Γ mX8_carryOrdersOut 5 0 0 48 [(1, q_i (k + 1)), (0, q_r Γ 0), (2, q_i k)] [q_i 0] (KC, qS28) (fun v9 w9 => v9 = some (q_i (s_co P N φ).2) ∧ s_ok (s_co P N φ).1 ∧ s_pz (s_co P N φ).1 ∧ ∃ S2, w9 = (KC, S2) ∧ s_F S2 1 (s_co P N φ).1 ∧ s_offX S S2)
              refine q_if_ne (tgt := 53) (pc' := 51) dX8_carryOrdersOut_48 rfl rfl (by decide) (fun qc_48 => absurd qc_48 (by decide)) (fun qc_48 => ?_)
              refine q_iloadn (pc' := 52) 0 dX8_carryOrdersOut_51 rfl rfl ?_
              exact (fun en => q_iret dX8_carryOrdersOut_52 rfl rfl (by rw [← en]; exact ⟨rfl, okd, pzd, _, rfl, qF28, s_offX_t (s_offX_t qa_11_9 qX21) qX28⟩)) (show (s_dp P ps z, k + 1) = s_co P N φ from by have q := s_coL_1 qa_11_7 (by omega) hzN (qd28.2 (by omega)); exact s_coL_e q (by unfold s_nz; rw [q_B_f (by assumption)]; have q2 := s_gz_N qa_11_6 (by omega) (by assumption) (by omega) (by assumption); omega))
            · show q_Go Γ mX8_carryOrdersOut 5 0 0 48 [(1, q_i (k + 1)), (0, q_r Γ 0), (2, q_i k)] [q_i 1] (KC, q_up qS28 27 1 ((s_odAt P z) + 1)) (fun v9 w9 => v9 = some (q_i (s_co P N φ).2) ∧ s_ok (s_co P N φ).1 ∧ s_pz (s_co P N φ).1 ∧ ∃ S2, w9 = (KC, S2) ∧ s_F S2 1 (s_co P N φ).1 ∧ s_offX S S2)
              refine q_if_ne (tgt := 53) (pc' := 51) dX8_carryOrdersOut_48 rfl rfl (by decide) (fun qc_48_1 => ?_) (fun qc_48_1 => absurd qc_48_1 (by decide))
              refine q_iinc (pc' := 56) 2 (L' := [(2, q_i (k + 1)), (1, q_i (k + 1)), (0, q_r Γ 0)]) dX8_carryOrdersOut_53 rfl rfl (by decide) rfl ?_
              refine q_goto (pc' := 11) dX8_carryOrdersOut_56 rfl ?_
              refine p_sub [2, 1, 0] rfl ?_
              exact qih_11 _ (by omega) _ (s_dp P ps z) (s_odAt P z + 1) _ (n - 1) (by exact q_up_eq) (by omega) (by exact s_pdC_u (by decide) (by decide) qpd28) (by exact s_F_o qF28 (fun a h1 h2 _ => q_up_ne (by omega))) (by exact okd) (by exact pzd) (by exact s_gz_59 qa_11_6 (by omega) (by assumption) (fun y hy => pN y (by omega)) (by omega) (by assumption)) (by have q := s_coL_1 qa_11_7 (by omega) hzN (qd28.2 (by omega)); unfold s_nz at q; rw [q_B_t (by assumption)] at q; exact q) (by omega) (by exact s_offX_u (s_offX_t (s_offX_t qa_11_9 qX21) qX28) (by decide) (by decide) (by decide)) rfl
          · refine q_iloadn (pc' := 35) 1 dX8_carryOrdersOut_34 rfl rfl ?_
            first | exact (fun en => q_iret dX8_carryOrdersOut_35 rfl rfl (by rw [← en]; exact ⟨rfl, okd, pzd, _, rfl, qF28, s_offX_t (s_offX_t qa_11_9 qX21) qX28⟩)) (show (s_dp P ps z, k) = s_co P N φ from s_coL_0 qa_11_7 (by omega) hzN (by have h0 : s_do P ps z = 0 := qd28.1 (by omega); omega))
  refine p_sub [2, 1, 0] rfl ?_
  exact qlp_11 _ _ φ 0 _ 82 (by exact q_up_eq) (by omega) (by exact s_pdC_u (by decide) (by decide) pd) (by exact s_F_o FF (fun a h1 h2 _ => q_up_ne (by omega))) (by exact ok) (by exact pz) (by exact ⟨81, hff, by decide⟩) (by rfl) (by decide) (by exact s_offX_u s_offX_r (by decide) (by decide) (by decide)) rfl
set_option maxRecDepth 20000 in
set_option maxHeartbeats 4000000 in
theorem c_X8_carryOut {Γ : q_G} {S A : q_S}  (J : s_Jc S A) : q_Sp Γ mX8_carryOut 6 0 0 [q_r Γ 0] (KC, S) (fun v9 w9 => v9 = some (q_i (s_coV (s_P A) (A 150 6) (A 151))) ∧ ∃ S2, w9 = (KC, S2) ∧ s_Jc S2 (s_coS (s_P A) (A 150 6) A) ∧ s_offM S S2) := by
  show q_Go Γ mX8_carryOut 6 0 0 0 [(0, q_r Γ 0)] [] (KC, S) (fun v9 w9 => v9 = some (q_i (s_coV (s_P A) (A 150 6) (A 151))) ∧ ∃ S2, w9 = (KC, S2) ∧ s_Jc S2 (s_coS (s_P A) (A 150 6) A) ∧ s_offM S S2)
  have ok := J.F.2.1
  have pz := J.F.2.2
  have rw0 := s_rows_b ok
  have c3 := ok.2.2.1
  have c4 := ok.2.2.2.1
  have FF := J.F.1
  refine q_aloadn (pc' := 1) 0 dX8_carryOut_0 rfl rfl ?_
  refine p_getR (pc' := 4) (f := 27) dX8_carryOut_1 rfl fX8_53 kc0 rfl ?_
  refine q_callVQ (pc' := 7) dX8_carryOut_4 rfl lX8_243 iX5_findFault kc27 rfl (c_X5_findFault (s_P_c J) J.p.1) rfl rfl (Nat.le_of_ble_eq_true rfl) (Nat.le_of_ble_eq_true rfl) (Nat.le_of_ble_eq_true rfl) (fun vq wq hq => ?_)
  obtain ⟨rfl, qb4, qS4, rfl, qo4⟩ := hq
  have J4 : s_Jc qS4 A := J.o (s_F_o FF (fun a h1 h2 _ => qo4 a (by omega) (by omega))) (s_offX_R qo4)
  have hO4 := s_offM_X (s_offX_R qo4)
  show q_Go Γ mX8_carryOut 6 0 0 7 [(0, q_r Γ 0)] [q_i (s_ff (s_P A) (A 150 6))] (KC, qS4) (fun v9 w9 => v9 = some (q_i (s_coV (s_P A) (A 150 6) (A 151))) ∧ ∃ S2, w9 = (KC, S2) ∧ s_Jc S2 (s_coS (s_P A) (A 150 6) A) ∧ s_offM S S2)
  refine q_bipush (pc' := 9) dX8_carryOut_7 rfl rfl ?_
  refine q_icmp_eq (tgt := 15) (pc' := 12) dX8_carryOut_9 rfl rfl (by first | assumption | omega) (by decide) (fun qc_9 => ?_) (fun qc_9 => ?_)
  · refine q_aloadn (pc' := 16) 0 dX8_carryOut_15 rfl rfl ?_
    refine p_getR (pc' := 19) (f := 29) dX8_carryOut_16 rfl fX8_60 kc0 rfl ?_
    refine q_aloadn (pc' := 20) 0 dX8_carryOut_19 rfl rfl ?_
    refine p_getR (pc' := 23) (f := 1) dX8_carryOut_20 rfl fX8_10 kc0 rfl ?_
    refine q_callVV (pc' := 26) dX8_carryOut_23 rfl lX8_72 iX1_mark kc29 rfl (c_X1_mark (by rw [J4.n]; exact J4.nb.1) (by rw [J4.n]; exact J4.nb.2) J4.hs) rfl rfl (Nat.le_of_ble_eq_true rfl) (Nat.le_of_ble_eq_true rfl) (Nat.le_of_ble_eq_true rfl) ?_
    have FM := s_mk_F J4
    have pdm : s_pdC (s_mk qS4) (s_P A) := by have q := s_P_c J4; unfold s_pdC at q ⊢; rw [s_mk_o J4 (show 25 < 31 ∨ 120 < 25 by decide), s_mk_o J4 (show 26 < 31 ∨ 120 < 26 by decide)]; exact q
    refine q_aloadn (pc' := 27) 0 dX8_carryOut_26 rfl rfl ?_
    refine q_callVQ (pc' := 30) dX8_carryOut_27 rfl lX8_246 iX8_carryOrdersOut kc0 rfl (c_X8_carryOrdersOut FM ok pz pdm (show s_mk qS4 25 1 = A 150 6 by rw [s_mk_o J4 (by decide)]; exact J4.p.1) (by omega)) rfl rfl (Nat.le_of_ble_eq_true rfl) (Nat.le_of_ble_eq_true rfl) (Nat.le_of_ble_eq_true rfl) (fun vq wq hq => ?_)
    obtain ⟨rfl, qk27, qp27, qS27, rfl, qF27, qo27⟩ := hq
    have mn27 := s_mk_n J4 qo27
    have cb := s_co_b (P := s_P A) (N := A 150 6) (φ := A 151)
    show q_Go Γ mX8_carryOut 6 0 0 30 [(0, q_r Γ 0)] [q_i ((s_co (s_P A) (A 150 6) (A 151)).2)] (KC, qS27) (fun v9 w9 => v9 = some (q_i (s_coV (s_P A) (A 150 6) (A 151))) ∧ ∃ S2, w9 = (KC, S2) ∧ s_Jc S2 (s_coS (s_P A) (A 150 6) A) ∧ s_offM S S2)
    refine q_istoren (pc' := 31) (L' := [(1, q_i ((s_co (s_P A) (A 150 6) (A 151)).2)), (0, q_r Γ 0)]) dX8_carryOut_30 rfl rfl (by decide) rfl ?_
    refine q_aloadn (pc' := 32) 1 dX8_carryOut_31 rfl rfl ?_
    refine p_getR (pc' := 35) (f := 25) dX8_carryOut_32 rfl fX8_44 kc0 rfl ?_
    refine q_callVI (pc' := 38) dX8_carryOut_35 rfl lX8_240 iX6_clear kc25 rfl c_X6_clear rfl rfl (Nat.le_of_ble_eq_true rfl) (Nat.le_of_ble_eq_true rfl) (Nat.le_of_ble_eq_true rfl) ?_
    refine q_pop (pc' := 39) dX8_carryOut_38 rfl rfl ?_
    refine q_aloadn (pc' := 40) 1 dX8_carryOut_39 rfl rfl ?_
    refine p_getR (pc' := 43) (f := 29) dX8_carryOut_40 rfl fX8_60 kc0 rfl ?_
    refine q_iloadn (pc' := 44) 0 dX8_carryOut_43 rfl rfl ?_
    refine q_callVI (pc' := 47) dX8_carryOut_44 rfl lX8_79 iX1_keep kc29 rfl (c_X1_keep (by rw [q_up_ne (by decide)]; exact mn27.2.1.1) (by rw [q_up_ne (by decide)]; exact mn27.2.1.2) (by have q := mn27.2.2; unfold s_hs at q ⊢; rw [q_up_ne (by decide)]; exact q) (by omega)) rfl rfl (Nat.le_of_ble_eq_true rfl) (Nat.le_of_ble_eq_true rfl) (Nat.le_of_ble_eq_true rfl) ?_
    exact (fun hj => q_iret dX8_carryOut_47 rfl rfl ⟨congrArg (fun z => some (q_i z)) (by unfold s_coV; rw [if_pos (by omega)]), _, rfl, by (unfold s_coS; rw [if_pos (by omega)]; exact hj.1), s_offM_t hO4 hj.2⟩) (s_J_carry J4 qF27 qo27 qk27 qp27 cb.1)
  · refine q_bipush (pc' := 14) dX8_carryOut_12 rfl rfl ?_
    exact q_iret dX8_carryOut_14 rfl rfl ⟨congrArg (fun z => some (q_i z)) (by unfold s_coV; rw [if_neg (by omega)]), _, rfl, by (unfold s_coS; rw [if_neg (by omega)]; exact J4), hO4⟩
