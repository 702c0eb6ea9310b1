theorem c_law_loop {nm : String} {Γ : q_G} (hx : ∀ j, q_rg (q_xs Γ j)) (iN : (q_n Γ : Int) ≤ 3072) (n : Nat) : ∀ (i : Int) (S : q_S), 0 ≤ i → i ≤ 4000 → (q_n Γ : Int) - i < (n : Int) → s_Jc S S → q_Go Γ (mLn nm) 12 0 0 18 [(3, q_i i), (2, q_r Γ 150), (1, q_r Γ 0), (0, .ref (q_ad Γ 3))] [] (KC, S) (fun v9 _ => v9 = some (q_i 1)) := by
  induction n with
  | zero =>
    intro i S i0 i2 hn J
    have hr : q_rg i := ⟨by omega, by omega⟩
    refine q_iloadn (pc' := 19) 0 dL_law_18 rfl rfl ?_
    refine q_aloadn (pc' := 20) 3 dL_law_19 rfl rfl ?_
    refine q_tlen (i := 3) (pc' := 21) dL_law_20 rfl (by decide) ?_
    show q_Go Γ (mLn nm) 12 0 0 21 [(3, q_i i), (2, q_r Γ 150), (1, q_r Γ 0), (0, .ref (q_ad Γ 3))] [q_i ((q_n Γ : Nat) : Int), q_i i] (KC, S) (fun v9 _ => v9 = some (q_i 1))
    refine q_bipush (pc' := 23) dL_law_21 rfl rfl ?_
    refine q_isub (pc' := 24) dL_law_23 rfl ?_
    refine q_icmp_gt (tgt := 962) (pc' := 27) dL_law_24 rfl rfl hr ⟨by omega, by omega⟩ (fun _ => ?_) (fun g => ?_)
    · refine q_iconst (pc' := 963) dL_law_962 rfl ?_
      exact q_iret dL_law_963 rfl rfl rfl
    · exfalso; omega
  | succ n ih =>
    intro i S i0 i2 hn J
    have hr : q_rg i := ⟨by omega, by omega⟩
    refine q_iloadn (pc' := 19) 0 dL_law_18 rfl rfl ?_
    refine q_aloadn (pc' := 20) 3 dL_law_19 rfl rfl ?_
    refine q_tlen (i := 3) (pc' := 21) dL_law_20 rfl (by decide) ?_
    show q_Go Γ (mLn nm) 12 0 0 21 [(3, q_i i), (2, q_r Γ 150), (1, q_r Γ 0), (0, .ref (q_ad Γ 3))] [q_i ((q_n Γ : Nat) : Int), q_i i] (KC, S) (fun v9 _ => v9 = some (q_i 1))
    refine q_bipush (pc' := 23) dL_law_21 rfl rfl ?_
    refine q_isub (pc' := 24) dL_law_23 rfl ?_
    refine q_icmp_gt (tgt := 962) (pc' := 27) dL_law_24 rfl rfl hr ⟨by omega, by omega⟩ (fun _ => ?_) (fun g => ?_)
    · refine q_iconst (pc' := 963) dL_law_962 rfl ?_
      exact q_iret dL_law_963 rfl rfl rfl
    · have i1 : i + 6 ≤ (q_n Γ : Int) := by omega
      have back : ∀ S2, s_Jc S2 S2 → q_Go Γ (mLn nm) 12 0 0 18 [(3, q_i (i + 6)), (2, q_r Γ 150), (1, q_r Γ 0), (0, .ref (q_ad Γ 3))] [] (KC, S2) (fun v9 _ => v9 = some (q_i 1)) := fun S2 J2 => ih (i + 6) S2 (by omega) (by omega) (by omega) J2
      refine q_aloadn (pc' := 28) 3 dL_law_27 rfl rfl ?_
      refine q_iloadn (pc' := 29) 0 dL_law_28 rfl rfl ?_
      refine q_tald (i := 3) (pc' := 30) dL_law_29 rfl (by decide) (by omega) (show _ < ((q_n Γ : Nat) : Int) by omega) (by omega) ?_
      show q_Go Γ (mLn nm) 12 0 0 30 [(3, q_i i), (2, q_r Γ 150), (1, q_r Γ 0), (0, .ref (q_ad Γ 3))] [q_i (q_xs Γ i.toNat)] (KC, S) (fun v9 _ => v9 = some (q_i 1))
      refine q_bipush (pc' := 32) dL_law_30 rfl rfl ?_
      refine q_iand (z := s_m31 (q_xs Γ i.toNat)) (pc' := 33) dL_law_32 rfl s_m31_e ?_
      have hm : q_rg (s_m31 (q_xs Γ i.toNat)) := q_rgt _
      generalize s_m31 (q_xs Γ i.toNat) = m at hm ⊢
      by_cases c0 : 0 ≤ m ∧ m ≤ 23
      · have cs : m = 0 ∨ m = 1 ∨ m = 2 ∨ m = 3 ∨ m = 4 ∨ m = 5 ∨ m = 6 ∨ m = 7 ∨ m = 8 ∨ m = 9 ∨ m = 10 ∨ m = 11 ∨ m = 12 ∨ m = 13 ∨ m = 14 ∨ m = 15 ∨ m = 16 ∨ m = 17 ∨ m = 18 ∨ m = 19 ∨ m = 20 ∨ m = 21 ∨ m = 22 ∨ m = 23 := by omega
        rcases cs with e | e | e | e | e | e | e | e | e | e | e | e | e | e | e | e | e | e | e | e | e | e | e | e
        · subst e
          refine q_tableIn (pc' := 144) (off := 111) dL_law_33 hm (by omega) (by omega) rfl rfl ?_
          exact c_law_144 J hx i0 i1 iN back
        · subst e
          refine q_tableIn (pc' := 187) (off := 154) dL_law_33 hm (by omega) (by omega) rfl rfl ?_
          exact c_law_187 J hx i0 i1 iN back
        · subst e
          refine q_tableIn (pc' := 220) (off := 187) dL_law_33 hm (by omega) (by omega) rfl rfl ?_
          exact c_law_220 J hx i0 i1 iN back
        · subst e
          refine q_tableIn (pc' := 253) (off := 220) dL_law_33 hm (by omega) (by omega) rfl rfl ?_
          exact c_law_253 J hx i0 i1 iN back
        · subst e
          refine q_tableIn (pc' := 276) (off := 243) dL_law_33 hm (by omega) (by omega) rfl rfl ?_
          exact c_law_276 J hx i0 i1 iN back
        · subst e
          refine q_tableIn (pc' := 329) (off := 296) dL_law_33 hm (by omega) (by omega) rfl rfl ?_
          exact c_law_329 J hx i0 i1 iN back
        · subst e
          refine q_tableIn (pc' := 382) (off := 349) dL_law_33 hm (by omega) (by omega) rfl rfl ?_
          exact c_law_382 J hx i0 i1 iN back
        · subst e
          refine q_tableIn (pc' := 445) (off := 412) dL_law_33 hm (by omega) (by omega) rfl rfl ?_
          exact c_law_445 J hx i0 i1 iN back
        · subst e
          refine q_tableIn (pc' := 478) (off := 445) dL_law_33 hm (by omega) (by omega) rfl rfl ?_
          exact c_law_478 J hx i0 i1 iN back
        · subst e
          refine q_tableIn (pc' := 491) (off := 458) dL_law_33 hm (by omega) (by omega) rfl rfl ?_
          exact c_law_491 J hx i0 i1 iN back
        · subst e
          refine q_tableIn (pc' := 524) (off := 491) dL_law_33 hm (by omega) (by omega) rfl rfl ?_
          exact c_law_524 J hx i0 i1 iN back
        · subst e
          refine q_tableIn (pc' := 567) (off := 534) dL_law_33 hm (by omega) (by omega) rfl rfl ?_
          exact c_law_567 J hx i0 i1 iN back
        · subst e
          refine q_tableIn (pc' := 620) (off := 587) dL_law_33 hm (by omega) (by omega) rfl rfl ?_
          exact c_law_620 J hx i0 i1 iN back
        · subst e
          refine q_tableIn (pc' := 663) (off := 630) dL_law_33 hm (by omega) (by omega) rfl rfl ?_
          exact c_law_663 J hx i0 i1 iN back
        · subst e
          refine q_tableIn (pc' := 686) (off := 653) dL_law_33 hm (by omega) (by omega) rfl rfl ?_
          exact c_law_686 J hx i0 i1 iN back
        · subst e
          refine q_tableIn (pc' := 749) (off := 716) dL_law_33 hm (by omega) (by omega) rfl rfl ?_
          exact c_law_749 J hx i0 i1 iN back
        · subst e
          refine q_tableIn (pc' := 782) (off := 749) dL_law_33 hm (by omega) (by omega) rfl rfl ?_
          exact c_law_782 J hx i0 i1 iN back
        · subst e
          refine q_tableIn (pc' := 805) (off := 772) dL_law_33 hm (by omega) (by omega) rfl rfl ?_
          exact c_law_805 J hx i0 i1 iN back
        · subst e
          refine q_tableIn (pc' := 858) (off := 825) dL_law_33 hm (by omega) (by omega) rfl rfl ?_
          exact c_law_858 J hx i0 i1 iN back
        · subst e
          refine q_tableIn (pc' := 871) (off := 838) dL_law_33 hm (by omega) (by omega) rfl rfl ?_
          exact c_law_871 J hx i0 i1 iN back
        · subst e
          refine q_tableIn (pc' := 884) (off := 851) dL_law_33 hm (by omega) (by omega) rfl rfl ?_
          exact c_law_884 J hx i0 i1 iN back
        · subst e
          refine q_tableIn (pc' := 897) (off := 864) dL_law_33 hm (by omega) (by omega) rfl rfl ?_
          exact c_law_897 J hx i0 i1 iN back
        · subst e
          refine q_tableIn (pc' := 910) (off := 877) dL_law_33 hm (by omega) (by omega) rfl rfl ?_
          exact c_law_910 J hx i0 i1 iN back
        · subst e
          refine q_tableIn (pc' := 933) (off := 900) dL_law_33 hm (by omega) (by omega) rfl rfl ?_
          exact c_law_933 J hx i0 i1 iN back
      · refine q_tableOut (pc' := 956) dL_law_33 hm (by omega) rfl ?_
        refine q_iinc (pc' := 959) 0 (L' := [(3, q_i (i + 6)), (2, q_r Γ 150), (1, q_r Γ 0), (0, .ref (q_ad Γ 3))]) dL_law_956 rfl rfl (show _ < 4 by decide) rfl ?_
        refine q_goto (pc' := 18) dL_law_959 rfl ?_
        exact back _ J
theorem q_K8 : ([] ++ [.inl (8, [0 + 1 + 2, 0 + 14 + 2, 0 + 19 + 2, 0 + 20 + 2, 0 + 25 + 2, 0 + 27 + 2, 0 + 29 + 2, 0 + 122 + 2, 0 + 149 + 2]), .inl (0, [0, 0 + 2 + 2, 0 + 3 + 2, 0 + 4 + 2, 0 + 5 + 2, 0 + 6 + 2, 0, 0 + 7 + 2, 0 + 8 + 2, 0 + 11 + 2, 0]), .inr (0, 6), .inr (0, 6), .inr (0, 6), .inr (0, 6), .inr (0, 10), .inr (0, 360), .inl (4, [0, 0 + 9 + 2, 0 + 10 + 2]), .inr (0, 50), .inr (0, 10), .inl (4, [0, 0 + 12 + 2, 0 + 13 + 2]), .inr (0, 50), .inr (0, 10), .inl (2, [0 + 1 + 2, 0, 0 + 15 + 2, 0 + 16 + 2, 0 + 17 + 2, 0 + 18 + 2]), .inr (0, 36), .inr (0, 6), .inr (0, 6), .inr (0, 6), .inl (3, [0 + 1 + 2]), .inl (7, [0 + 1 + 2, 0 + 14 + 2, 0 + 21 + 2, 0, 0 + 22 + 2, 0 + 23 + 2, 0 + 24 + 2]), .inr (0, 15625), .inr (0, 6), .inr (0, 6), .inr (0, 6), .inl (6, [0 + 26 + 2, 0]), .inr (2, 80), .inl (5, [0 + 25 + 2, 0, 0, 0 + 28 + 2, 0]), .inr (0, 5), .inl (1, [0, 0 + 30 + 2]), .inr (3, 7), .inl (0, [0, 0 + 32 + 2, 0 + 33 + 2, 0 + 34 + 2, 0 + 35 + 2, 0 + 36 + 2, 0, 0 + 37 + 2, 0 + 38 + 2, 0 + 41 + 2, 0]), .inr (0, 6), .inr (0, 6), .inr (0, 6), .inr (0, 6), .inr (0, 10), .inr (0, 360), .inl (4, [0, 0 + 39 + 2, 0 + 40 + 2]), .inr (0, 50), .inr (0, 10), .inl (4, [0, 0 + 42 + 2, 0 + 43 + 2]), .inr (0, 50), .inr (0, 10), .inl (0, [0, 0 + 45 + 2, 0 + 46 + 2, 0 + 47 + 2, 0 + 48 + 2, 0 + 49 + 2, 0, 0 + 50 + 2, 0 + 51 + 2, 0 + 54 + 2, 0]), .inr (0, 6), .inr (0, 6), .inr (0, 6), .inr (0, 6), .inr (0, 10), .inr (0, 360), .inl (4, [0, 0 + 52 + 2, 0 + 53 + 2]), .inr (0, 50), .inr (0, 10), .inl (4, [0, 0 + 55 + 2, 0 + 56 + 2]), .inr (0, 50), .inr (0, 10), .inl (0, [0, 0 + 58 + 2, 0 + 59 + 2, 0 + 60 + 2, 0 + 61 + 2, 0 + 62 + 2, 0, 0 + 63 + 2, 0 + 64 + 2, 0 + 67 + 2, 0]), .inr (0, 6), .inr (0, 6), .inr (0, 6), .inr (0, 6), .inr (0, 10), .inr (0, 360), .inl (4, [0, 0 + 65 + 2, 0 + 66 + 2]), .inr (0, 50), .inr (0, 10), .inl (4, [0, 0 + 68 + 2, 0 + 69 + 2]), .inr (0, 50), .inr (0, 10), .inl (0, [0, 0 + 71 + 2, 0 + 72 + 2, 0 + 73 + 2, 0 + 74 + 2, 0 + 75 + 2, 0, 0 + 76 + 2, 0 + 77 + 2, 0 + 80 + 2, 0]), .inr (0, 6), .inr (0, 6), .inr (0, 6), .inr (0, 6), .inr (0, 10), .inr (0, 360), .inl (4, [0, 0 + 78 + 2, 0 + 79 + 2]), .inr (0, 50), .inr (0, 10), .inl (4, [0, 0 + 81 + 2, 0 + 82 + 2]), .inr (0, 50), .inr (0, 10), .inl (0, [0, 0 + 84 + 2, 0 + 85 + 2, 0 + 86 + 2, 0 + 87 + 2, 0 + 88 + 2, 0, 0 + 89 + 2, 0 + 90 + 2, 0 + 93 + 2, 0]), .inr (0, 6), .inr (0, 6), .inr (0, 6), .inr (0, 6), .inr (0, 10), .inr (0, 360), .inl (4, [0, 0 + 91 + 2, 0 + 92 + 2]), .inr (0, 50), .inr (0, 10), .inl (4, [0, 0 + 94 + 2, 0 + 95 + 2]), .inr (0, 50), .inr (0, 10), .inl (0, [0, 0 + 97 + 2, 0 + 98 + 2, 0 + 99 + 2, 0 + 100 + 2, 0 + 101 + 2, 0, 0 + 102 + 2, 0 + 103 + 2, 0 + 106 + 2, 0]), .inr (0, 6), .inr (0, 6), .inr (0, 6), .inr (0, 6), .inr (0, 10), .inr (0, 360), .inl (4, [0, 0 + 104 + 2, 0 + 105 + 2]), .inr (0, 50), .inr (0, 10), .inl (4, [0, 0 + 107 + 2, 0 + 108 + 2]), .inr (0, 50), .inr (0, 10), .inl (0, [0, 0 + 110 + 2, 0 + 111 + 2, 0 + 112 + 2, 0 + 113 + 2, 0 + 114 + 2, 0, 0 + 115 + 2, 0 + 116 + 2, 0 + 119 + 2, 0]), .inr (0, 6), .inr (0, 6), .inr (0, 6), .inr (0, 6), .inr (0, 10), .inr (0, 360), .inl (4, [0, 0 + 117 + 2, 0 + 118 + 2]), .inr (0, 50), .inr (0, 10), .inl (4, [0, 0 + 120 + 2, 0 + 121 + 2]), .inr (0, 50), .inr (0, 10), .inr (3, 2), .inl (0, [0, 0 + 124 + 2, 0 + 125 + 2, 0 + 126 + 2, 0 + 127 + 2, 0 + 128 + 2, 0, 0 + 129 + 2, 0 + 130 + 2, 0 + 133 + 2, 0]), .inr (0, 6), .inr (0, 6), .inr (0, 6), .inr (0, 6), .inr (0, 10), .inr (0, 360), .inl (4, [0, 0 + 131 + 2, 0 + 132 + 2]), .inr (0, 50), .inr (0, 10), .inl (4, [0, 0 + 134 + 2, 0 + 135 + 2]), .inr (0, 50), .inr (0, 10), .inl (0, [0, 0 + 137 + 2, 0 + 138 + 2, 0 + 139 + 2, 0 + 140 + 2, 0 + 141 + 2, 0, 0 + 142 + 2, 0 + 143 + 2, 0 + 146 + 2, 0]), .inr (0, 6), .inr (0, 6), .inr (0, 6), .inr (0, 6), .inr (0, 10), .inr (0, 360), .inl (4, [0, 0 + 144 + 2, 0 + 145 + 2]), .inr (0, 50), .inr (0, 10), .inl (4, [0, 0 + 147 + 2, 0 + 148 + 2]), .inr (0, 50), .inr (0, 10), .inr (1, 2)] : List q_K) = KC.take 150 := by decide +kernel
theorem q_K9 : (KC.take 150 ++ [.inl (9, [150 + 1 + 2, 150 + 2 + 2, 0, 150 + 3 + 2, 150 + 4 + 2, 150 + 5 + 2, 0, 150 + 6 + 2, 150 + 7 + 2, 150 + 8 + 2, 0, 0, 0, 0, 0, 0, 0]), .inr (0, 489), .inr (0, 2934), .inr (0, 978), .inr (0, 2), .inr (0, 80), .inr (0, 300), .inr (0, 1800), .inr (0, 6)] : List q_K) = KC := by decide +kernel
theorem q_K8n : (KC.take 150).length = 150 := by decide +kernel
set_option maxRecDepth 100000 in
set_option maxHeartbeats 4000000 in
theorem c_law {nm : String} {Γ : q_G} (hx : ∀ j, q_rg (q_xs Γ j)) (iN : (q_n Γ : Int) ≤ 3072) : q_Sp Γ (mLn nm) 12 159 27741 [.ref (q_ad Γ 3)] ([], fun _ _ => 0) (fun v9 _ => v9 = some (q_i 1)) := by
  show q_Go Γ (mLn nm) 12 159 27741 0 [(0, .ref (q_ad Γ 3))] [] ([] ++ [], fun _ _ => 0) (fun v9 _ => v9 = some (q_i 1))
  refine n_new (n := 0) (l' := [.inl (8, [1, 1, 1, 1, 1, 1, 1, 1, 1])]) (bc2 := 158) (bs2 := 27732) (pc' := 3) [1, 1, 1, 1, 1, 1, 1, 1, 1] tyX8 dL_law_0 rfl kX8 tyX8_ok wL_7 w_new_X8 w_ini_X8 dfX8 rfl rfl rfl rfl ?_
  refine q_dup (pc' := 4) dL_law_3 rfl rfl ?_
  refine q_callC (bc' := 149) (bs' := 21126) (bc2 := 9) (bs2 := 6606) (pc' := 7) dL_law_4 rfl lL_9 iX8_init (c_X8_init (P := []) (c := 0) rfl (by omega) q_nw_eq) rfl rfl (Nat.le_of_ble_eq_true rfl) (Nat.le_of_ble_eq_true rfl) (Nat.le_of_ble_eq_true rfl) rfl rfl (fun v9 w9 h9 => ?_)
  obtain ⟨rfl, S2, rfl, iv8⟩ := h9
  show q_Go Γ (mLn nm) 12 9 6606 7 [(0, .ref (q_ad Γ 3))] [q_r Γ 0] ([] ++ [.inl (8, [0 + 1 + 2, 0 + 14 + 2, 0 + 19 + 2, 0 + 20 + 2, 0 + 25 + 2, 0 + 27 + 2, 0 + 29 + 2, 0 + 122 + 2, 0 + 149 + 2]), .inl (0, [0, 0 + 2 + 2, 0 + 3 + 2, 0 + 4 + 2, 0 + 5 + 2, 0 + 6 + 2, 0, 0 + 7 + 2, 0 + 8 + 2, 0 + 11 + 2, 0]), .inr (0, 6), .inr (0, 6), .inr (0, 6), .inr (0, 6), .inr (0, 10), .inr (0, 360), .inl (4, [0, 0 + 9 + 2, 0 + 10 + 2]), .inr (0, 50), .inr (0, 10), .inl (4, [0, 0 + 12 + 2, 0 + 13 + 2]), .inr (0, 50), .inr (0, 10), .inl (2, [0 + 1 + 2, 0, 0 + 15 + 2, 0 + 16 + 2, 0 + 17 + 2, 0 + 18 + 2]), .inr (0, 36), .inr (0, 6), .inr (0, 6), .inr (0, 6), .inl (3, [0 + 1 + 2]), .inl (7, [0 + 1 + 2, 0 + 14 + 2, 0 + 21 + 2, 0, 0 + 22 + 2, 0 + 23 + 2, 0 + 24 + 2]), .inr (0, 15625), .inr (0, 6), .inr (0, 6), .inr (0, 6), .inl (6, [0 + 26 + 2, 0]), .inr (2, 80), .inl (5, [0 + 25 + 2, 0, 0, 0 + 28 + 2, 0]), .inr (0, 5), .inl (1, [0, 0 + 30 + 2]), .inr (3, 7), .inl (0, [0, 0 + 32 + 2, 0 + 33 + 2, 0 + 34 + 2, 0 + 35 + 2, 0 + 36 + 2, 0, 0 + 37 + 2, 0 + 38 + 2, 0 + 41 + 2, 0]), .inr (0, 6), .inr (0, 6), .inr (0, 6), .inr (0, 6), .inr (0, 10), .inr (0, 360), .inl (4, [0, 0 + 39 + 2, 0 + 40 + 2]), .inr (0, 50), .inr (0, 10), .inl (4, [0, 0 + 42 + 2, 0 + 43 + 2]), .inr (0, 50), .inr (0, 10), .inl (0, [0, 0 + 45 + 2, 0 + 46 + 2, 0 + 47 + 2, 0 + 48 + 2, 0 + 49 + 2, 0, 0 + 50 + 2, 0 + 51 + 2, 0 + 54 + 2, 0]), .inr (0, 6), .inr (0, 6), .inr (0, 6), .inr (0, 6), .inr (0, 10), .inr (0, 360), .inl (4, [0, 0 + 52 + 2, 0 + 53 + 2]), .inr (0, 50), .inr (0, 10), .inl (4, [0, 0 + 55 + 2, 0 + 56 + 2]), .inr (0, 50), .inr (0, 10), .inl (0, [0, 0 + 58 + 2, 0 + 59 + 2, 0 + 60 + 2, 0 + 61 + 2, 0 + 62 + 2, 0, 0 + 63 + 2, 0 + 64 + 2, 0 + 67 + 2, 0]), .inr (0, 6), .inr (0, 6), .inr (0, 6), .inr (0, 6), .inr (0, 10), .inr (0, 360), .inl (4, [0, 0 + 65 + 2, 0 + 66 + 2]), .inr (0, 50), .inr (0, 10), .inl (4, [0, 0 + 68 + 2, 0 + 69 + 2]), .inr (0, 50), .inr (0, 10), .inl (0, [0, 0 + 71 + 2, 0 + 72 + 2, 0 + 73 + 2, 0 + 74 + 2, 0 + 75 + 2, 0, 0 + 76 + 2, 0 + 77 + 2, 0 + 80 + 2, 0]), .inr (0, 6), .inr (0, 6), .inr (0, 6), .inr (0, 6), .inr (0, 10), .inr (0, 360), .inl (4, [0, 0 + 78 + 2, 0 + 79 + 2]), .inr (0, 50), .inr (0, 10), .inl (4, [0, 0 + 81 + 2, 0 + 82 + 2]), .inr (0, 50), .inr (0, 10), .inl (0, [0, 0 + 84 + 2, 0 + 85 + 2, 0 + 86 + 2, 0 + 87 + 2, 0 + 88 + 2, 0, 0 + 89 + 2, 0 + 90 + 2, 0 + 93 + 2, 0]), .inr (0, 6), .inr (0, 6), .inr (0, 6), .inr (0, 6), .inr (0, 10), .inr (0, 360), .inl (4, [0, 0 + 91 + 2, 0 + 92 + 2]), .inr (0, 50), .inr (0, 10), .inl (4, [0, 0 + 94 + 2, 0 + 95 + 2]), .inr (0, 50), .inr (0, 10), .inl (0, [0, 0 + 97 + 2, 0 + 98 + 2, 0 + 99 + 2, 0 + 100 + 2, 0 + 101 + 2, 0, 0 + 102 + 2, 0 + 103 + 2, 0 + 106 + 2, 0]), .inr (0, 6), .inr (0, 6), .inr (0, 6), .inr (0, 6), .inr (0, 10), .inr (0, 360), .inl (4, [0, 0 + 104 + 2, 0 + 105 + 2]), .inr (0, 50), .inr (0, 10), .inl (4, [0, 0 + 107 + 2, 0 + 108 + 2]), .inr (0, 50), .inr (0, 10), .inl (0, [0, 0 + 110 + 2, 0 + 111 + 2, 0 + 112 + 2, 0 + 113 + 2, 0 + 114 + 2, 0, 0 + 115 + 2, 0 + 116 + 2, 0 + 119 + 2, 0]), .inr (0, 6), .inr (0, 6), .inr (0, 6), .inr (0, 6), .inr (0, 10), .inr (0, 360), .inl (4, [0, 0 + 117 + 2, 0 + 118 + 2]), .inr (0, 50), .inr (0, 10), .inl (4, [0, 0 + 120 + 2, 0 + 121 + 2]), .inr (0, 50), .inr (0, 10), .inr (3, 2), .inl (0, [0, 0 + 124 + 2, 0 + 125 + 2, 0 + 126 + 2, 0 + 127 + 2, 0 + 128 + 2, 0, 0 + 129 + 2, 0 + 130 + 2, 0 + 133 + 2, 0]), .inr (0, 6), .inr (0, 6), .inr (0, 6), .inr (0, 6), .inr (0, 10), .inr (0, 360), .inl (4, [0, 0 + 131 + 2, 0 + 132 + 2]), .inr (0, 50), .inr (0, 10), .inl (4, [0, 0 + 134 + 2, 0 + 135 + 2]), .inr (0, 50), .inr (0, 10), .inl (0, [0, 0 + 137 + 2, 0 + 138 + 2, 0 + 139 + 2, 0 + 140 + 2, 0 + 141 + 2, 0, 0 + 142 + 2, 0 + 143 + 2, 0 + 146 + 2, 0]), .inr (0, 6), .inr (0, 6), .inr (0, 6), .inr (0, 6), .inr (0, 10), .inr (0, 360), .inl (4, [0, 0 + 144 + 2, 0 + 145 + 2]), .inr (0, 50), .inr (0, 10), .inl (4, [0, 0 + 147 + 2, 0 + 148 + 2]), .inr (0, 50), .inr (0, 10), .inr (1, 2)], S2) (fun v9 _ => v9 = some (q_i 1))
  rw [q_K8]
  refine q_astoren (pc' := 8) (L' := [(1, q_r Γ 0), (0, .ref (q_ad Γ 3))]) dL_law_7 rfl rfl (show _ < 4 by decide) rfl ?_
  rw [← List.append_nil (KC.take 150)]
  refine n_new (P := KC.take 150) (l := []) (n := 150) (l' := [.inl (9, [1, 1, 0, 1, 1, 1, 0, 1, 1, 1, 0, 0, 0, 0, 0, 0, 0])]) (bc2 := 8) (bs2 := 6589) (pc' := 11) [1, 1, 0, 1, 1, 1, 0, 1, 1, 1, 0, 0, 0, 0, 0, 0, 0] tyX9 dL_law_8 rfl kX9 tyX9_ok wL_10 w_new_X9 w_ini_X9 dfX9 rfl rfl (by rw [q_K8n]; rfl) rfl ?_
  refine q_dup (pc' := 12) dL_law_11 rfl rfl ?_
  refine q_callC (bc' := 8) (bs' := 6589) (bc2 := 0) (bs2 := 0) (pc' := 15) dL_law_12 rfl lL_12 iX9_init (c_X9_init (P := KC.take 150) (c := 150) q_K8n q_nw_eq) rfl rfl (Nat.le_of_ble_eq_true rfl) (Nat.le_of_ble_eq_true rfl) (Nat.le_of_ble_eq_true rfl) rfl rfl (fun v9 w9 h9 => ?_)
  obtain ⟨rfl, S3, rfl, iv9⟩ := h9
  show q_Go Γ (mLn nm) 12 0 0 15 [(1, q_r Γ 0), (0, .ref (q_ad Γ 3))] [q_r Γ 150] (KC.take 150 ++ [.inl (9, [150 + 1 + 2, 150 + 2 + 2, 0, 150 + 3 + 2, 150 + 4 + 2, 150 + 5 + 2, 0, 150 + 6 + 2, 150 + 7 + 2, 150 + 8 + 2, 0, 0, 0, 0, 0, 0, 0]), .inr (0, 489), .inr (0, 2934), .inr (0, 978), .inr (0, 2), .inr (0, 80), .inr (0, 300), .inr (0, 1800), .inr (0, 6)], S3) (fun v9 _ => v9 = some (q_i 1))
  rw [q_K9]
  refine q_astoren (pc' := 16) (L' := [(2, q_r Γ 150), (1, q_r Γ 0), (0, .ref (q_ad Γ 3))]) dL_law_15 rfl rfl (show _ < 4 by decide) rfl ?_
  refine q_iconst (pc' := 17) dL_law_16 rfl ?_
  refine q_istoren (pc' := 18) (L' := [(3, q_i 0), (2, q_r Γ 150), (1, q_r Γ 0), (0, .ref (q_ad Γ 3))]) dL_law_17 rfl rfl (show _ < 4 by decide) rfl ?_
  have J : s_Jc S3 S3 := s_J0 (fun a ha => by
    rw [iv9.1 a ha, q_nw_ne (show a ≠ 150 by omega)]
    exact iv8.2 a (by omega) (by omega)) (fun a h1 h2 => iv9.2 a h1 (by omega))
  exact c_law_loop hx iN (q_n Γ + 1) 0 S3 (by omega) (by omega) (by omega) J
