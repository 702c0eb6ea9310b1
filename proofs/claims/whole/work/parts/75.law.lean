set_option maxHeartbeats 2000000 in
theorem c_law_620 {nm : String} {Γ : q_G} {S : q_S} {i : Int} (J : s_Jc S S) (hx : ∀ j, q_rg (q_xs Γ j)) (i0 : 0 ≤ i) (i1 : i + 6 ≤ (q_n Γ : Int)) (iN : (q_n Γ : Int) ≤ 3072) {Q : Option Value → q_W → Prop} (back : ∀ S2, s_Jc S2 S2 → q_Go Γ (mLn nm) 12 0 0 18 [(3, q_i (i + 6)), (2, q_r Γ 150), (1, q_r Γ 0), (0, .ref (q_ad Γ 3))] [] (KC, S2) Q) : q_Go Γ (mLn nm) 12 0 0 620 [(3, q_i i), (2, q_r Γ 150), (1, q_r Γ 0), (0, .ref (q_ad Γ 3))] [] (KC, S) Q := by
  have ok : s_ok (S 151) := J.F.2.1
  have h0 : 0 ≤ S 150 2 := J.nb.1
  have h6 : S 150 2 ≤ 6 := J.nb.2
  have hi : q_rg i := ⟨by omega, by omega⟩
  refine q_aloadn (pc' := 621) 2 dL_law_620 rfl rfl ?_
  refine q_aloadn (pc' := 622) 3 dL_law_621 rfl rfl ?_
  refine q_iloadn (pc' := 623) 0 dL_law_622 rfl rfl ?_
  refine q_iconst (pc' := 624) dL_law_623 rfl ?_
  refine q_iadd (pc' := 625) dL_law_624 rfl ?_
  refine q_tald (i := 3) (pc' := 626) dL_law_625 rfl (by decide) (by omega) (show _ < ((q_n Γ : Nat) : Int) by omega) (by omega) ?_
  refine q_aloadn (pc' := 627) 3 dL_law_626 rfl rfl ?_
  refine q_iloadn (pc' := 628) 0 dL_law_627 rfl rfl ?_
  refine q_iconst (pc' := 629) dL_law_628 rfl ?_
  refine q_iadd (pc' := 630) dL_law_629 rfl ?_
  refine q_tald (i := 3) (pc' := 631) dL_law_630 rfl (by decide) (by omega) (show _ < ((q_n Γ : Nat) : Int) by omega) (by omega) ?_
  refine q_aloadn (pc' := 632) 3 dL_law_631 rfl rfl ?_
  refine q_iloadn (pc' := 633) 0 dL_law_632 rfl rfl ?_
  refine q_iconst (pc' := 634) dL_law_633 rfl ?_
  refine q_iadd (pc' := 635) dL_law_634 rfl ?_
  refine q_tald (i := 3) (pc' := 636) dL_law_635 rfl (by decide) (by omega) (show _ < ((q_n Γ : Nat) : Int) by omega) (by omega) ?_
  refine q_callVQ (pc' := 639) dL_law_636 rfl lL_67 iX8_offer kc0 rfl (c_X8_offer J (hx _) (hx _) (hx _)) rfl rfl (Nat.le_of_ble_eq_true rfl) (Nat.le_of_ble_eq_true rfl) (Nat.le_of_ble_eq_true rfl) (fun v9 w9 h9 => ?_)
  obtain ⟨rfl, S1, rfl, J1, O1⟩ := h9
  show q_Go Γ (mLn nm) 12 0 0 639 [(3, q_i i), (2, q_r Γ 150), (1, q_r Γ 0), (0, .ref (q_ad Γ 3))] [q_i (s_offer (S 151) (q_xs Γ (i + 1).toNat) (q_xs Γ (i + 2).toNat) (q_xs Γ (i + 3).toNat))] (KC, S1) Q
  have e51 : S1 151 = S 151 := O1 151 (by decide)
  have e50 : S1 150 = S 150 := O1 150 (by decide)
  have e54 : S1 154 = S 154 := O1 154 (by decide)
  have e53 : S1 153 = S 153 := O1 153 (by decide)
  have ok1 : s_ok (S1 151) := by rw [e51]; exact ok
  have g0 : 0 ≤ S1 150 2 := by rw [e50]; exact h0
  have g6 : S1 150 2 ≤ 6 := by rw [e50]; exact h6
  refine q_aloadn (pc' := 640) 1 dL_law_639 rfl rfl ?_
  refine q_aloadn (pc' := 641) 3 dL_law_640 rfl rfl ?_
  refine q_iloadn (pc' := 642) 0 dL_law_641 rfl rfl ?_
  refine q_iconst (pc' := 643) dL_law_642 rfl ?_
  refine q_iadd (pc' := 644) dL_law_643 rfl ?_
  refine q_tald (i := 3) (pc' := 645) dL_law_644 rfl (by decide) (by omega) (show _ < ((q_n Γ : Nat) : Int) by omega) (by omega) ?_
  refine q_aloadn (pc' := 646) 3 dL_law_645 rfl rfl ?_
  refine q_iloadn (pc' := 647) 0 dL_law_646 rfl rfl ?_
  refine q_iconst (pc' := 648) dL_law_647 rfl ?_
  refine q_iadd (pc' := 649) dL_law_648 rfl ?_
  refine q_tald (i := 3) (pc' := 650) dL_law_649 rfl (by decide) (by omega) (show _ < ((q_n Γ : Nat) : Int) by omega) (by omega) ?_
  refine q_aloadn (pc' := 651) 3 dL_law_650 rfl rfl ?_
  refine q_iloadn (pc' := 652) 0 dL_law_651 rfl rfl ?_
  refine q_iconst (pc' := 653) dL_law_652 rfl ?_
  refine q_iadd (pc' := 654) dL_law_653 rfl ?_
  refine q_tald (i := 3) (pc' := 655) dL_law_654 rfl (by decide) (by omega) (show _ < ((q_n Γ : Nat) : Int) by omega) (by omega) ?_
  refine q_callVI (pc' := 658) dL_law_655 rfl lL_70 iX9_offer kc150 rfl (c_X9_offer (S := S1) ok1 (hx _) (hx _) (hx _)) rfl rfl (Nat.le_of_ble_eq_true rfl) (Nat.le_of_ble_eq_true rfl) (Nat.le_of_ble_eq_true rfl) ?_
  show q_Go Γ (mLn nm) 12 0 0 658 [(3, q_i i), (2, q_r Γ 150), (1, q_r Γ 0), (0, .ref (q_ad Γ 3))] [q_i (s_offer (S1 151) (q_xs Γ (i + 1).toNat) (q_xs Γ (i + 2).toNat) (q_xs Γ (i + 3).toNat)), q_i (s_offer (S 151) (q_xs Γ (i + 1).toNat) (q_xs Γ (i + 2).toNat) (q_xs Γ (i + 3).toNat))] (KC, S1) Q
  have eV : s_offer (S1 151) (q_xs Γ (i + 1).toNat) (q_xs Γ (i + 2).toNat) (q_xs Γ (i + 3).toNat) = s_offer (S 151) (q_xs Γ (i + 1).toNat) (q_xs Γ (i + 2).toNat) (q_xs Γ (i + 3).toNat) := by rw [e51]
  rw [eV]
  refine q_icmp_s (tgt := 956) dL_law_658 rfl ?_
  refine q_iinc (pc' := 959) 0 (L' := [(3, q_i (i + 6)), (2, q_r Γ 150), (1, q_r Γ 0), (0, .ref (q_ad Γ 3))]) dL_law_956 rfl rfl (show _ < 4 by decide) rfl ?_
  refine q_goto (pc' := 18) dL_law_959 rfl ?_
  exact back _ (s_Jc_1 J1 O1)
set_option maxHeartbeats 2000000 in
theorem c_law_663 {nm : String} {Γ : q_G} {S : q_S} {i : Int} (J : s_Jc S S) (hx : ∀ j, q_rg (q_xs Γ j)) (i0 : 0 ≤ i) (i1 : i + 6 ≤ (q_n Γ : Int)) (iN : (q_n Γ : Int) ≤ 3072) {Q : Option Value → q_W → Prop} (back : ∀ S2, s_Jc S2 S2 → q_Go Γ (mLn nm) 12 0 0 18 [(3, q_i (i + 6)), (2, q_r Γ 150), (1, q_r Γ 0), (0, .ref (q_ad Γ 3))] [] (KC, S2) Q) : q_Go Γ (mLn nm) 12 0 0 663 [(3, q_i i), (2, q_r Γ 150), (1, q_r Γ 0), (0, .ref (q_ad Γ 3))] [] (KC, S) Q := by
  have ok : s_ok (S 151) := J.F.2.1
  have h0 : 0 ≤ S 150 2 := J.nb.1
  have h6 : S 150 2 ≤ 6 := J.nb.2
  have hi : q_rg i := ⟨by omega, by omega⟩
  refine q_aloadn (pc' := 664) 2 dL_law_663 rfl rfl ?_
  refine q_aloadn (pc' := 665) 3 dL_law_664 rfl rfl ?_
  refine q_iloadn (pc' := 666) 0 dL_law_665 rfl rfl ?_
  refine q_iconst (pc' := 667) dL_law_666 rfl ?_
  refine q_iadd (pc' := 668) dL_law_667 rfl ?_
  refine q_tald (i := 3) (pc' := 669) dL_law_668 rfl (by decide) (by omega) (show _ < ((q_n Γ : Nat) : Int) by omega) (by omega) ?_
  refine q_callVQ (pc' := 672) dL_law_669 rfl lL_71 iX8_count kc0 rfl (c_X8_count J (hx _)) rfl rfl (Nat.le_of_ble_eq_true rfl) (Nat.le_of_ble_eq_true rfl) (Nat.le_of_ble_eq_true rfl) (fun v9 w9 h9 => ?_)
  obtain ⟨rfl, S1, rfl, J1, O1⟩ := h9
  show q_Go Γ (mLn nm) 12 0 0 672 [(3, q_i i), (2, q_r Γ 150), (1, q_r Γ 0), (0, .ref (q_ad Γ 3))] [q_i (s_count (S 151) (S 150 6) (S 150 2) (q_xs Γ (i + 1).toNat))] (KC, S1) Q
  have e51 : S1 151 = S 151 := O1 151 (by decide)
  have e50 : S1 150 = S 150 := O1 150 (by decide)
  have e54 : S1 154 = S 154 := O1 154 (by decide)
  have e53 : S1 153 = S 153 := O1 153 (by decide)
  have ok1 : s_ok (S1 151) := by rw [e51]; exact ok
  have g0 : 0 ≤ S1 150 2 := by rw [e50]; exact h0
  have g6 : S1 150 2 ≤ 6 := by rw [e50]; exact h6
  refine q_aloadn (pc' := 673) 1 dL_law_672 rfl rfl ?_
  refine q_aloadn (pc' := 674) 3 dL_law_673 rfl rfl ?_
  refine q_iloadn (pc' := 675) 0 dL_law_674 rfl rfl ?_
  refine q_iconst (pc' := 676) dL_law_675 rfl ?_
  refine q_iadd (pc' := 677) dL_law_676 rfl ?_
  refine q_tald (i := 3) (pc' := 678) dL_law_677 rfl (by decide) (by omega) (show _ < ((q_n Γ : Nat) : Int) by omega) (by omega) ?_
  refine q_callVI (pc' := 681) dL_law_678 rfl lL_74 iX9_count kc150 rfl (c_X9_count (S := S1) ok1 (hx _)) rfl rfl (Nat.le_of_ble_eq_true rfl) (Nat.le_of_ble_eq_true rfl) (Nat.le_of_ble_eq_true rfl) ?_
  show q_Go Γ (mLn nm) 12 0 0 681 [(3, q_i i), (2, q_r Γ 150), (1, q_r Γ 0), (0, .ref (q_ad Γ 3))] [q_i (s_count (S1 151) (S1 150 6) (S1 150 2) (q_xs Γ (i + 1).toNat)), q_i (s_count (S 151) (S 150 6) (S 150 2) (q_xs Γ (i + 1).toNat))] (KC, S1) Q
  have eV : s_count (S1 151) (S1 150 6) (S1 150 2) (q_xs Γ (i + 1).toNat) = s_count (S 151) (S 150 6) (S 150 2) (q_xs Γ (i + 1).toNat) := by rw [e51, e50]
  rw [eV]
  refine q_icmp_s (tgt := 956) dL_law_681 rfl ?_
  refine q_iinc (pc' := 959) 0 (L' := [(3, q_i (i + 6)), (2, q_r Γ 150), (1, q_r Γ 0), (0, .ref (q_ad Γ 3))]) dL_law_956 rfl rfl (show _ < 4 by decide) rfl ?_
  refine q_goto (pc' := 18) dL_law_959 rfl ?_
  exact back _ (s_Jc_1 J1 O1)
set_option maxHeartbeats 2000000 in
theorem c_law_686 {nm : String} {Γ : q_G} {S : q_S} {i : Int} (J : s_Jc S S) (hx : ∀ j, q_rg (q_xs Γ j)) (i0 : 0 ≤ i) (i1 : i + 6 ≤ (q_n Γ : Int)) (iN : (q_n Γ : Int) ≤ 3072) {Q : Option Value → q_W → Prop} (back : ∀ S2, s_Jc S2 S2 → q_Go Γ (mLn nm) 12 0 0 18 [(3, q_i (i + 6)), (2, q_r Γ 150), (1, q_r Γ 0), (0, .ref (q_ad Γ 3))] [] (KC, S2) Q) : q_Go Γ (mLn nm) 12 0 0 686 [(3, q_i i), (2, q_r Γ 150), (1, q_r Γ 0), (0, .ref (q_ad Γ 3))] [] (KC, S) Q := by
  have ok : s_ok (S 151) := J.F.2.1
  have h0 : 0 ≤ S 150 2 := J.nb.1
  have h6 : S 150 2 ≤ 6 := J.nb.2
  have hi : q_rg i := ⟨by omega, by omega⟩
  refine q_aloadn (pc' := 687) 2 dL_law_686 rfl rfl ?_
  refine q_aloadn (pc' := 688) 3 dL_law_687 rfl rfl ?_
  refine q_iloadn (pc' := 689) 0 dL_law_688 rfl rfl ?_
  refine q_iconst (pc' := 690) dL_law_689 rfl ?_
  refine q_iadd (pc' := 691) dL_law_690 rfl ?_
  refine q_tald (i := 3) (pc' := 692) dL_law_691 rfl (by decide) (by omega) (show _ < ((q_n Γ : Nat) : Int) by omega) (by omega) ?_
  refine q_aloadn (pc' := 693) 3 dL_law_692 rfl rfl ?_
  refine q_iloadn (pc' := 694) 0 dL_law_693 rfl rfl ?_
  refine q_iconst (pc' := 695) dL_law_694 rfl ?_
  refine q_iadd (pc' := 696) dL_law_695 rfl ?_
  refine q_tald (i := 3) (pc' := 697) dL_law_696 rfl (by decide) (by omega) (show _ < ((q_n Γ : Nat) : Int) by omega) (by omega) ?_
  refine q_aloadn (pc' := 698) 3 dL_law_697 rfl rfl ?_
  refine q_iloadn (pc' := 699) 0 dL_law_698 rfl rfl ?_
  refine q_iconst (pc' := 700) dL_law_699 rfl ?_
  refine q_iadd (pc' := 701) dL_law_700 rfl ?_
  refine q_tald (i := 3) (pc' := 702) dL_law_701 rfl (by decide) (by omega) (show _ < ((q_n Γ : Nat) : Int) by omega) (by omega) ?_
  refine q_aloadn (pc' := 703) 3 dL_law_702 rfl rfl ?_
  refine q_iloadn (pc' := 704) 0 dL_law_703 rfl rfl ?_
  refine q_iconst (pc' := 705) dL_law_704 rfl ?_
  refine q_iadd (pc' := 706) dL_law_705 rfl ?_
  refine q_tald (i := 3) (pc' := 707) dL_law_706 rfl (by decide) (by omega) (show _ < ((q_n Γ : Nat) : Int) by omega) (by omega) ?_
  refine q_aloadn (pc' := 708) 3 dL_law_707 rfl rfl ?_
  refine q_iloadn (pc' := 709) 0 dL_law_708 rfl rfl ?_
  refine q_iconst (pc' := 710) dL_law_709 rfl ?_
  refine q_iadd (pc' := 711) dL_law_710 rfl ?_
  refine q_tald (i := 3) (pc' := 712) dL_law_711 rfl (by decide) (by omega) (show _ < ((q_n Γ : Nat) : Int) by omega) (by omega) ?_
  refine q_callVQ (pc' := 715) dL_law_712 rfl lL_75 iX8_worth kc0 rfl (c_X8_worth J (hx _) (hx _) (hx _) (hx _) (hx _)) rfl rfl (Nat.le_of_ble_eq_true rfl) (Nat.le_of_ble_eq_true rfl) (Nat.le_of_ble_eq_true rfl) (fun v9 w9 h9 => ?_)
  obtain ⟨rfl, S1, rfl, J1, O1⟩ := h9
  show q_Go Γ (mLn nm) 12 0 0 715 [(3, q_i i), (2, q_r Γ 150), (1, q_r Γ 0), (0, .ref (q_ad Γ 3))] [q_i (s_worth (S 151) (q_xs Γ (i + 1).toNat) (q_xs Γ (i + 2).toNat) (q_xs Γ (i + 3).toNat) (q_xs Γ (i + 4).toNat) (q_xs Γ (i + 5).toNat))] (KC, S1) Q
  have e51 : S1 151 = S 151 := O1 151 (by decide)
  have e50 : S1 150 = S 150 := O1 150 (by decide)
  have e54 : S1 154 = S 154 := O1 154 (by decide)
  have e53 : S1 153 = S 153 := O1 153 (by decide)
  have ok1 : s_ok (S1 151) := by rw [e51]; exact ok
  have g0 : 0 ≤ S1 150 2 := by rw [e50]; exact h0
  have g6 : S1 150 2 ≤ 6 := by rw [e50]; exact h6
  refine q_aloadn (pc' := 716) 1 dL_law_715 rfl rfl ?_
  refine q_aloadn (pc' := 717) 3 dL_law_716 rfl rfl ?_
  refine q_iloadn (pc' := 718) 0 dL_law_717 rfl rfl ?_
  refine q_iconst (pc' := 719) dL_law_718 rfl ?_
  refine q_iadd (pc' := 720) dL_law_719 rfl ?_
  refine q_tald (i := 3) (pc' := 721) dL_law_720 rfl (by decide) (by omega) (show _ < ((q_n Γ : Nat) : Int) by omega) (by omega) ?_
  refine q_aloadn (pc' := 722) 3 dL_law_721 rfl rfl ?_
  refine q_iloadn (pc' := 723) 0 dL_law_722 rfl rfl ?_
  refine q_iconst (pc' := 724) dL_law_723 rfl ?_
  refine q_iadd (pc' := 725) dL_law_724 rfl ?_
  refine q_tald (i := 3) (pc' := 726) dL_law_725 rfl (by decide) (by omega) (show _ < ((q_n Γ : Nat) : Int) by omega) (by omega) ?_
  refine q_aloadn (pc' := 727) 3 dL_law_726 rfl rfl ?_
  refine q_iloadn (pc' := 728) 0 dL_law_727 rfl rfl ?_
  refine q_iconst (pc' := 729) dL_law_728 rfl ?_
  refine q_iadd (pc' := 730) dL_law_729 rfl ?_
  refine q_tald (i := 3) (pc' := 731) dL_law_730 rfl (by decide) (by omega) (show _ < ((q_n Γ : Nat) : Int) by omega) (by omega) ?_
  refine q_aloadn (pc' := 732) 3 dL_law_731 rfl rfl ?_
  refine q_iloadn (pc' := 733) 0 dL_law_732 rfl rfl ?_
  refine q_iconst (pc' := 734) dL_law_733 rfl ?_
  refine q_iadd (pc' := 735) dL_law_734 rfl ?_
  refine q_tald (i := 3) (pc' := 736) dL_law_735 rfl (by decide) (by omega) (show _ < ((q_n Γ : Nat) : Int) by omega) (by omega) ?_
  refine q_aloadn (pc' := 737) 3 dL_law_736 rfl rfl ?_
  refine q_iloadn (pc' := 738) 0 dL_law_737 rfl rfl ?_
  refine q_iconst (pc' := 739) dL_law_738 rfl ?_
  refine q_iadd (pc' := 740) dL_law_739 rfl ?_
  refine q_tald (i := 3) (pc' := 741) dL_law_740 rfl (by decide) (by omega) (show _ < ((q_n Γ : Nat) : Int) by omega) (by omega) ?_
  refine q_callVI (pc' := 744) dL_law_741 rfl lL_78 iX9_worth kc150 rfl (c_X9_worth (S := S1) ok1 (hx _) (hx _) (hx _) (hx _) (hx _)) rfl rfl (Nat.le_of_ble_eq_true rfl) (Nat.le_of_ble_eq_true rfl) (Nat.le_of_ble_eq_true rfl) ?_
  show q_Go Γ (mLn nm) 12 0 0 744 [(3, q_i i), (2, q_r Γ 150), (1, q_r Γ 0), (0, .ref (q_ad Γ 3))] [q_i (s_worth (S1 151) (q_xs Γ (i + 1).toNat) (q_xs Γ (i + 2).toNat) (q_xs Γ (i + 3).toNat) (q_xs Γ (i + 4).toNat) (q_xs Γ (i + 5).toNat)), q_i (s_worth (S 151) (q_xs Γ (i + 1).toNat) (q_xs Γ (i + 2).toNat) (q_xs Γ (i + 3).toNat) (q_xs Γ (i + 4).toNat) (q_xs Γ (i + 5).toNat))] (KC, S1) Q
  have eV : s_worth (S1 151) (q_xs Γ (i + 1).toNat) (q_xs Γ (i + 2).toNat) (q_xs Γ (i + 3).toNat) (q_xs Γ (i + 4).toNat) (q_xs Γ (i + 5).toNat) = s_worth (S 151) (q_xs Γ (i + 1).toNat) (q_xs Γ (i + 2).toNat) (q_xs Γ (i + 3).toNat) (q_xs Γ (i + 4).toNat) (q_xs Γ (i + 5).toNat) := by rw [e51]
  rw [eV]
  refine q_icmp_s (tgt := 956) dL_law_744 rfl ?_
  refine q_iinc (pc' := 959) 0 (L' := [(3, q_i (i + 6)), (2, q_r Γ 150), (1, q_r Γ 0), (0, .ref (q_ad Γ 3))]) dL_law_956 rfl rfl (show _ < 4 by decide) rfl ?_
  refine q_goto (pc' := 18) dL_law_959 rfl ?_
  exact back _ (s_Jc_1 J1 O1)
set_option maxHeartbeats 2000000 in
theorem c_law_749 {nm : String} {Γ : q_G} {S : q_S} {i : Int} (J : s_Jc S S) (hx : ∀ j, q_rg (q_xs Γ j)) (i0 : 0 ≤ i) (i1 : i + 6 ≤ (q_n Γ : Int)) (iN : (q_n Γ : Int) ≤ 3072) {Q : Option Value → q_W → Prop} (back : ∀ S2, s_Jc S2 S2 → q_Go Γ (mLn nm) 12 0 0 18 [(3, q_i (i + 6)), (2, q_r Γ 150), (1, q_r Γ 0), (0, .ref (q_ad Γ 3))] [] (KC, S2) Q) : q_Go Γ (mLn nm) 12 0 0 749 [(3, q_i i), (2, q_r Γ 150), (1, q_r Γ 0), (0, .ref (q_ad Γ 3))] [] (KC, S) Q := by
  have ok : s_ok (S 151) := J.F.2.1
  have h0 : 0 ≤ S 150 2 := J.nb.1
  have h6 : S 150 2 ≤ 6 := J.nb.2
  have hi : q_rg i := ⟨by omega, by omega⟩
  refine q_aloadn (pc' := 750) 2 dL_law_749 rfl rfl ?_
  refine q_aloadn (pc' := 751) 3 dL_law_750 rfl rfl ?_
  refine q_iloadn (pc' := 752) 0 dL_law_751 rfl rfl ?_
  refine q_iconst (pc' := 753) dL_law_752 rfl ?_
  refine q_iadd (pc' := 754) dL_law_753 rfl ?_
  refine q_tald (i := 3) (pc' := 755) dL_law_754 rfl (by decide) (by omega) (show _ < ((q_n Γ : Nat) : Int) by omega) (by omega) ?_
  refine q_aloadn (pc' := 756) 3 dL_law_755 rfl rfl ?_
  refine q_iloadn (pc' := 757) 0 dL_law_756 rfl rfl ?_
  refine q_iconst (pc' := 758) dL_law_757 rfl ?_
  refine q_iadd (pc' := 759) dL_law_758 rfl ?_
  refine q_tald (i := 3) (pc' := 760) dL_law_759 rfl (by decide) (by omega) (show _ < ((q_n Γ : Nat) : Int) by omega) (by omega) ?_
  refine q_callVQ (pc' := 763) dL_law_760 rfl lL_79 iX8_bestTilt kc0 rfl (c_X8_bestTilt J (hx _) (hx _)) rfl rfl (Nat.le_of_ble_eq_true rfl) (Nat.le_of_ble_eq_true rfl) (Nat.le_of_ble_eq_true rfl) (fun v9 w9 h9 => ?_)
  obtain ⟨rfl, S1, rfl, J1, O1⟩ := h9
  show q_Go Γ (mLn nm) 12 0 0 763 [(3, q_i i), (2, q_r Γ 150), (1, q_r Γ 0), (0, .ref (q_ad Γ 3))] [q_i (s_best1 (S 151) (q_xs Γ (i + 1).toNat) (q_xs Γ (i + 2).toNat))] (KC, S1) Q
  have e51 : S1 151 = S 151 := O1 151 (by decide)
  have e50 : S1 150 = S 150 := O1 150 (by decide)
  have e54 : S1 154 = S 154 := O1 154 (by decide)
  have e53 : S1 153 = S 153 := O1 153 (by decide)
  have ok1 : s_ok (S1 151) := by rw [e51]; exact ok
  have g0 : 0 ≤ S1 150 2 := by rw [e50]; exact h0
  have g6 : S1 150 2 ≤ 6 := by rw [e50]; exact h6
  refine q_aloadn (pc' := 764) 1 dL_law_763 rfl rfl ?_
  refine q_aloadn (pc' := 765) 3 dL_law_764 rfl rfl ?_
  refine q_iloadn (pc' := 766) 0 dL_law_765 rfl rfl ?_
  refine q_iconst (pc' := 767) dL_law_766 rfl ?_
  refine q_iadd (pc' := 768) dL_law_767 rfl ?_
  refine q_tald (i := 3) (pc' := 769) dL_law_768 rfl (by decide) (by omega) (show _ < ((q_n Γ : Nat) : Int) by omega) (by omega) ?_
  refine q_aloadn (pc' := 770) 3 dL_law_769 rfl rfl ?_
  refine q_iloadn (pc' := 771) 0 dL_law_770 rfl rfl ?_
  refine q_iconst (pc' := 772) dL_law_771 rfl ?_
  refine q_iadd (pc' := 773) dL_law_772 rfl ?_
  refine q_tald (i := 3) (pc' := 774) dL_law_773 rfl (by decide) (by omega) (show _ < ((q_n Γ : Nat) : Int) by omega) (by omega) ?_
  refine q_callVI (pc' := 777) dL_law_774 rfl lL_82 iX9_bestTilt kc150 rfl (c_X9_bestTilt (S := S1) ok1 (hx _) (hx _)) rfl rfl (Nat.le_of_ble_eq_true rfl) (Nat.le_of_ble_eq_true rfl) (Nat.le_of_ble_eq_true rfl) ?_
  show q_Go Γ (mLn nm) 12 0 0 777 [(3, q_i i), (2, q_r Γ 150), (1, q_r Γ 0), (0, .ref (q_ad Γ 3))] [q_i (s_best1 (S1 151) (q_xs Γ (i + 1).toNat) (q_xs Γ (i + 2).toNat)), q_i (s_best1 (S 151) (q_xs Γ (i + 1).toNat) (q_xs Γ (i + 2).toNat))] (KC, S1) Q
  have eV : s_best1 (S1 151) (q_xs Γ (i + 1).toNat) (q_xs Γ (i + 2).toNat) = s_best1 (S 151) (q_xs Γ (i + 1).toNat) (q_xs Γ (i + 2).toNat) := by rw [e51]
  rw [eV]
  refine q_icmp_s (tgt := 956) dL_law_777 rfl ?_
  refine q_iinc (pc' := 959) 0 (L' := [(3, q_i (i + 6)), (2, q_r Γ 150), (1, q_r Γ 0), (0, .ref (q_ad Γ 3))]) dL_law_956 rfl rfl (show _ < 4 by decide) rfl ?_
  refine q_goto (pc' := 18) dL_law_959 rfl ?_
  exact back _ (s_Jc_1 J1 O1)
set_option maxHeartbeats 2000000 in
theorem c_law_782 {nm : String} {Γ : q_G} {S : q_S} {i : Int} (J : s_Jc S S) (hx : ∀ j, q_rg (q_xs Γ j)) (i0 : 0 ≤ i) (i1 : i + 6 ≤ (q_n Γ : Int)) (iN : (q_n Γ : Int) ≤ 3072) {Q : Option Value → q_W → Prop} (back : ∀ S2, s_Jc S2 S2 → q_Go Γ (mLn nm) 12 0 0 18 [(3, q_i (i + 6)), (2, q_r Γ 150), (1, q_r Γ 0), (0, .ref (q_ad Γ 3))] [] (KC, S2) Q) : q_Go Γ (mLn nm) 12 0 0 782 [(3, q_i i), (2, q_r Γ 150), (1, q_r Γ 0), (0, .ref (q_ad Γ 3))] [] (KC, S) Q := by
  have ok : s_ok (S 151) := J.F.2.1
  have h0 : 0 ≤ S 150 2 := J.nb.1
  have h6 : S 150 2 ≤ 6 := J.nb.2
  have hi : q_rg i := ⟨by omega, by omega⟩
  refine q_aloadn (pc' := 783) 2 dL_law_782 rfl rfl ?_
  refine q_aloadn (pc' := 784) 3 dL_law_783 rfl rfl ?_
  refine q_iloadn (pc' := 785) 0 dL_law_784 rfl rfl ?_
  refine q_iconst (pc' := 786) dL_law_785 rfl ?_
  refine q_iadd (pc' := 787) dL_law_786 rfl ?_
  refine q_tald (i := 3) (pc' := 788) dL_law_787 rfl (by decide) (by omega) (show _ < ((q_n Γ : Nat) : Int) by omega) (by omega) ?_
  refine q_callVQ (pc' := 791) dL_law_788 rfl lL_83 iX8_bestTilts kc0 rfl (c_X8_bestTilts J (hx _)) rfl rfl (Nat.le_of_ble_eq_true rfl) (Nat.le_of_ble_eq_true rfl) (Nat.le_of_ble_eq_true rfl) (fun v9 w9 h9 => ?_)
  obtain ⟨rfl, S1, rfl, J1, O1⟩ := h9
  show q_Go Γ (mLn nm) 12 0 0 791 [(3, q_i i), (2, q_r Γ 150), (1, q_r Γ 0), (0, .ref (q_ad Γ 3))] [q_i (s_best (S 151) (q_xs Γ (i + 1).toNat))] (KC, S1) Q
  have e51 : S1 151 = S 151 := O1 151 (by decide)
  have e50 : S1 150 = S 150 := O1 150 (by decide)
  have e54 : S1 154 = S 154 := O1 154 (by decide)
  have e53 : S1 153 = S 153 := O1 153 (by decide)
  have ok1 : s_ok (S1 151) := by rw [e51]; exact ok
  have g0 : 0 ≤ S1 150 2 := by rw [e50]; exact h0
  have g6 : S1 150 2 ≤ 6 := by rw [e50]; exact h6
  refine q_aloadn (pc' := 792) 1 dL_law_791 rfl rfl ?_
  refine q_aloadn (pc' := 793) 3 dL_law_792 rfl rfl ?_
  refine q_iloadn (pc' := 794) 0 dL_law_793 rfl rfl ?_
  refine q_iconst (pc' := 795) dL_law_794 rfl ?_
  refine q_iadd (pc' := 796) dL_law_795 rfl ?_
  refine q_tald (i := 3) (pc' := 797) dL_law_796 rfl (by decide) (by omega) (show _ < ((q_n Γ : Nat) : Int) by omega) (by omega) ?_
  refine q_callVQ (pc' := 800) dL_law_797 rfl lL_86 iX9_bestTilts kc150 rfl (c_X9_bestTilts (S := S1) ok1 (hx _)) rfl rfl (Nat.le_of_ble_eq_true rfl) (Nat.le_of_ble_eq_true rfl) (Nat.le_of_ble_eq_true rfl) (fun v9 w9 h9 => ?_)
  obtain ⟨rfl, S3, rfl, o3⟩ := h9
  show q_Go Γ (mLn nm) 12 0 0 800 [(3, q_i i), (2, q_r Γ 150), (1, q_r Γ 0), (0, .ref (q_ad Γ 3))] [q_i (s_best (S1 151) (q_xs Γ (i + 1).toNat)), q_i (s_best (S 151) (q_xs Γ (i + 1).toNat))] (KC, S3) Q
  rw [e51]
  refine q_icmp_s (tgt := 956) dL_law_800 rfl ?_
  refine q_iinc (pc' := 959) 0 (L' := [(3, q_i (i + 6)), (2, q_r Γ 150), (1, q_r Γ 0), (0, .ref (q_ad Γ 3))]) dL_law_956 rfl rfl (show _ < 4 by decide) rfl ?_
  refine q_goto (pc' := 18) dL_law_959 rfl ?_
  exact back _ (s_Jc_t (s_Jc_1 J1 O1) o3)
set_option maxHeartbeats 2000000 in
theorem c_law_805 {nm : String} {Γ : q_G} {S : q_S} {i : Int} (J : s_Jc S S) (hx : ∀ j, q_rg (q_xs Γ j)) (i0 : 0 ≤ i) (i1 : i + 6 ≤ (q_n Γ : Int)) (iN : (q_n Γ : Int) ≤ 3072) {Q : Option Value → q_W → Prop} (back : ∀ S2, s_Jc S2 S2 → q_Go Γ (mLn nm) 12 0 0 18 [(3, q_i (i + 6)), (2, q_r Γ 150), (1, q_r Γ 0), (0, .ref (q_ad Γ 3))] [] (KC, S2) Q) : q_Go Γ (mLn nm) 12 0 0 805 [(3, q_i i), (2, q_r Γ 150), (1, q_r Γ 0), (0, .ref (q_ad Γ 3))] [] (KC, S) Q := by
  have ok : s_ok (S 151) := J.F.2.1
  have h0 : 0 ≤ S 150 2 := J.nb.1
  have h6 : S 150 2 ≤ 6 := J.nb.2
  have hi : q_rg i := ⟨by omega, by omega⟩
  refine q_aloadn (pc' := 806) 2 dL_law_805 rfl rfl ?_
  refine q_aloadn (pc' := 807) 3 dL_law_806 rfl rfl ?_
  refine q_iloadn (pc' := 808) 0 dL_law_807 rfl rfl ?_
  refine q_iconst (pc' := 809) dL_law_808 rfl ?_
  refine q_iadd (pc' := 810) dL_law_809 rfl ?_
  refine q_tald (i := 3) (pc' := 811) dL_law_810 rfl (by decide) (by omega) (show _ < ((q_n Γ : Nat) : Int) by omega) (by omega) ?_
  refine q_i2l (pc' := 812) dL_law_811 rfl rfl ?_
  refine q_bipush (pc' := 814) dL_law_812 rfl rfl ?_
  refine q_lshl (pc' := 815) dL_law_814 rfl rfl ?_
  refine q_aloadn (pc' := 816) 3 dL_law_815 rfl rfl ?_
  refine q_iloadn (pc' := 817) 0 dL_law_816 rfl rfl ?_
  refine q_iconst (pc' := 818) dL_law_817 rfl ?_
  refine q_iadd (pc' := 819) dL_law_818 rfl ?_
  refine q_tald (i := 3) (pc' := 820) dL_law_819 rfl (by decide) (by omega) (show _ < ((q_n Γ : Nat) : Int) by omega) (by omega) ?_
  refine q_i2l (pc' := 821) dL_law_820 rfl rfl ?_
  refine q_ldc2 (pc' := 824) dL_law_821 rfl wL_87 ?_
  refine q_land (pc' := 825) dL_law_824 rfl ?_
  refine q_lor (pc' := 826) dL_law_825 rfl ?_
  obtain ⟨N0, hN, eN⟩ : ∃ N0 : Nat, N0 < 18446744073709551616 ∧ ((Int32.ofInt (q_xs Γ (i + 1).toNat)).toInt64 <<< ((Int32.ofInt 32).toInt64 &&& 63)) ||| ((Int32.ofInt (q_xs Γ (i + 2).toNat)).toInt64 &&& 4294967295) = s_lo N0 := ⟨_, (((Int32.ofInt (q_xs Γ (i + 1).toNat)).toInt64 <<< ((Int32.ofInt 32).toInt64 &&& 63)) ||| ((Int32.ofInt (q_xs Γ (i + 2).toNat)).toInt64 &&& 4294967295) : Int64).toBitVec.isLt, s_lo_of _⟩
  show q_Go Γ (mLn nm) 12 0 0 826 [(3, q_i i), (2, q_r Γ 150), (1, q_r Γ 0), (0, .ref (q_ad Γ 3))] [.long (((Int32.ofInt (q_xs Γ (i + 1).toNat)).toInt64 <<< ((Int32.ofInt 32).toInt64 &&& 63)) ||| ((Int32.ofInt (q_xs Γ (i + 2).toNat)).toInt64 &&& 4294967295)), q_r Γ 0] (KC, S) Q
  rw [eN]
  refine q_callVQ (pc' := 829) dL_law_826 rfl lL_89 iX8_put kc0 rfl (c_X8_put J hN) rfl rfl (Nat.le_of_ble_eq_true rfl) (Nat.le_of_ble_eq_true rfl) (Nat.le_of_ble_eq_true rfl) (fun v9 w9 h9 => ?_)
  obtain ⟨rfl, S1, rfl, J1, O1⟩ := h9
  show q_Go Γ (mLn nm) 12 0 0 829 [(3, q_i i), (2, q_r Γ 150), (1, q_r Γ 0), (0, .ref (q_ad Γ 3))] [q_i (s_putV (S 150 6) N0)] (KC, S1) Q
  have e51 : S1 151 = S 151 := O1 151 (by decide)
  have e50 : S1 150 = S 150 := O1 150 (by decide)
  have e54 : S1 154 = S 154 := O1 154 (by decide)
  have e53 : S1 153 = S 153 := O1 153 (by decide)
  have ok1 : s_ok (S1 151) := by rw [e51]; exact ok
  have g0 : 0 ≤ S1 150 2 := by rw [e50]; exact h0
  have g6 : S1 150 2 ≤ 6 := by rw [e50]; exact h6
  refine q_aloadn (pc' := 830) 1 dL_law_829 rfl rfl ?_
  refine q_aloadn (pc' := 831) 3 dL_law_830 rfl rfl ?_
  refine q_iloadn (pc' := 832) 0 dL_law_831 rfl rfl ?_
  refine q_iconst (pc' := 833) dL_law_832 rfl ?_
  refine q_iadd (pc' := 834) dL_law_833 rfl ?_
  refine q_tald (i := 3) (pc' := 835) dL_law_834 rfl (by decide) (by omega) (show _ < ((q_n Γ : Nat) : Int) by omega) (by omega) ?_
  refine q_i2l (pc' := 836) dL_law_835 rfl rfl ?_
  refine q_bipush (pc' := 838) dL_law_836 rfl rfl ?_
  refine q_lshl (pc' := 839) dL_law_838 rfl rfl ?_
  refine q_aloadn (pc' := 840) 3 dL_law_839 rfl rfl ?_
  refine q_iloadn (pc' := 841) 0 dL_law_840 rfl rfl ?_
  refine q_iconst (pc' := 842) dL_law_841 rfl ?_
  refine q_iadd (pc' := 843) dL_law_842 rfl ?_
  refine q_tald (i := 3) (pc' := 844) dL_law_843 rfl (by decide) (by omega) (show _ < ((q_n Γ : Nat) : Int) by omega) (by omega) ?_
  refine q_i2l (pc' := 845) dL_law_844 rfl rfl ?_
  refine q_ldc2 (pc' := 848) dL_law_845 rfl wL_87 ?_
  refine q_land (pc' := 849) dL_law_848 rfl ?_
  refine q_lor (pc' := 850) dL_law_849 rfl ?_
  show q_Go Γ (mLn nm) 12 0 0 850 [(3, q_i i), (2, q_r Γ 150), (1, q_r Γ 0), (0, .ref (q_ad Γ 3))] [.long (((Int32.ofInt (q_xs Γ (i + 1).toNat)).toInt64 <<< ((Int32.ofInt 32).toInt64 &&& 63)) ||| ((Int32.ofInt (q_xs Γ (i + 2).toNat)).toInt64 &&& 4294967295)), q_r Γ 150, q_i (s_putV (S 150 6) N0)] (KC, S1) Q
  rw [eN]
  refine q_callVI (pc' := 853) dL_law_850 rfl lL_93 iX9_put kc150 rfl (c_X9_put (S := S1) hN (by rw [e50]; exact J.p.2.1) (by rw [e50]; exact J.p.2.2)) rfl rfl (Nat.le_of_ble_eq_true rfl) (Nat.le_of_ble_eq_true rfl) (Nat.le_of_ble_eq_true rfl) ?_
  show q_Go Γ (mLn nm) 12 0 0 853 [(3, q_i i), (2, q_r Γ 150), (1, q_r Γ 0), (0, .ref (q_ad Γ 3))] [q_i (s_putV (S1 150 6) N0), q_i (s_putV (S 150 6) N0)] (KC, s_putS S1 N0) Q
  have eV : s_putV (S1 150 6) N0 = s_putV (S 150 6) N0 := by rw [e50]
  rw [eV]
  refine q_icmp_s (tgt := 956) dL_law_853 rfl ?_
  refine q_iinc (pc' := 959) 0 (L' := [(3, q_i (i + 6)), (2, q_r Γ 150), (1, q_r Γ 0), (0, .ref (q_ad Γ 3))]) dL_law_956 rfl rfl (show _ < 4 by decide) rfl ?_
  refine q_goto (pc' := 18) dL_law_959 rfl ?_
  refine back _ ?_
  rw [s_mg_off O1, s_m_put]
  exact s_Jc_mg J1
set_option maxHeartbeats 2000000 in
theorem c_law_858 {nm : String} {Γ : q_G} {S : q_S} {i : Int} (J : s_Jc S S) (hx : ∀ j, q_rg (q_xs Γ j)) (i0 : 0 ≤ i) (i1 : i + 6 ≤ (q_n Γ : Int)) (iN : (q_n Γ : Int) ≤ 3072) {Q : Option Value → q_W → Prop} (back : ∀ S2, s_Jc S2 S2 → q_Go Γ (mLn nm) 12 0 0 18 [(3, q_i (i + 6)), (2, q_r Γ 150), (1, q_r Γ 0), (0, .ref (q_ad Γ 3))] [] (KC, S2) Q) : q_Go Γ (mLn nm) 12 0 0 858 [(3, q_i i), (2, q_r Γ 150), (1, q_r Γ 0), (0, .ref (q_ad Γ 3))] [] (KC, S) Q := by
  have ok : s_ok (S 151) := J.F.2.1
  have h0 : 0 ≤ S 150 2 := J.nb.1
  have h6 : S 150 2 ≤ 6 := J.nb.2
  have hi : q_rg i := ⟨by omega, by omega⟩
  refine q_aloadn (pc' := 859) 2 dL_law_858 rfl rfl ?_
  refine q_callVQ (pc' := 862) dL_law_859 rfl lL_94 iX8_wipe kc0 rfl (c_X8_wipe J) rfl rfl (Nat.le_of_ble_eq_true rfl) (Nat.le_of_ble_eq_true rfl) (Nat.le_of_ble_eq_true rfl) (fun v9 w9 h9 => ?_)
  obtain ⟨rfl, S1, rfl, J1, O1⟩ := h9
  show q_Go Γ (mLn nm) 12 0 0 862 [(3, q_i i), (2, q_r Γ 150), (1, q_r Γ 0), (0, .ref (q_ad Γ 3))] [q_i (S 150 6)] (KC, S1) Q
  have e51 : S1 151 = S 151 := O1 151 (by decide)
  have e50 : S1 150 = S 150 := O1 150 (by decide)
  have e54 : S1 154 = S 154 := O1 154 (by decide)
  have e53 : S1 153 = S 153 := O1 153 (by decide)
  have ok1 : s_ok (S1 151) := by rw [e51]; exact ok
  have g0 : 0 ≤ S1 150 2 := by rw [e50]; exact h0
  have g6 : S1 150 2 ≤ 6 := by rw [e50]; exact h6
  refine q_aloadn (pc' := 863) 1 dL_law_862 rfl rfl ?_
  refine q_callVI (pc' := 866) dL_law_863 rfl lL_97 iX9_wipe kc150 rfl (c_X9_wipe (S := S1) ) rfl rfl (Nat.le_of_ble_eq_true rfl) (Nat.le_of_ble_eq_true rfl) (Nat.le_of_ble_eq_true rfl) ?_
  show q_Go Γ (mLn nm) 12 0 0 866 [(3, q_i i), (2, q_r Γ 150), (1, q_r Γ 0), (0, .ref (q_ad Γ 3))] [q_i (S1 150 6), q_i (S 150 6)] (KC, q_up S1 150 6 0) Q
  have eV : S1 150 6 = S 150 6 := by rw [e50]
  rw [eV]
  refine q_icmp_s (tgt := 956) dL_law_866 rfl ?_
  refine q_iinc (pc' := 959) 0 (L' := [(3, q_i (i + 6)), (2, q_r Γ 150), (1, q_r Γ 0), (0, .ref (q_ad Γ 3))]) dL_law_956 rfl rfl (show _ < 4 by decide) rfl ?_
  refine q_goto (pc' := 18) dL_law_959 rfl ?_
  refine back _ ?_
  rw [s_mg_off O1, s_up_mg (by omega)]
  exact s_Jc_mg J1
set_option maxHeartbeats 2000000 in
theorem c_law_871 {nm : String} {Γ : q_G} {S : q_S} {i : Int} (J : s_Jc S S) (hx : ∀ j, q_rg (q_xs Γ j)) (i0 : 0 ≤ i) (i1 : i + 6 ≤ (q_n Γ : Int)) (iN : (q_n Γ : Int) ≤ 3072) {Q : Option Value → q_W → Prop} (back : ∀ S2, s_Jc S2 S2 → q_Go Γ (mLn nm) 12 0 0 18 [(3, q_i (i + 6)), (2, q_r Γ 150), (1, q_r Γ 0), (0, .ref (q_ad Γ 3))] [] (KC, S2) Q) : q_Go Γ (mLn nm) 12 0 0 871 [(3, q_i i), (2, q_r Γ 150), (1, q_r Γ 0), (0, .ref (q_ad Γ 3))] [] (KC, S) Q := by
  have ok : s_ok (S 151) := J.F.2.1
  have h0 : 0 ≤ S 150 2 := J.nb.1
  have h6 : S 150 2 ≤ 6 := J.nb.2
  have hi : q_rg i := ⟨by omega, by omega⟩
  refine q_aloadn (pc' := 872) 2 dL_law_871 rfl rfl ?_
  refine q_callVQ (pc' := 875) dL_law_872 rfl lL_98 iX8_fault kc0 rfl (c_X8_fault J) rfl rfl (Nat.le_of_ble_eq_true rfl) (Nat.le_of_ble_eq_true rfl) (Nat.le_of_ble_eq_true rfl) (fun v9 w9 h9 => ?_)
  obtain ⟨rfl, S1, rfl, J1, O1⟩ := h9
  show q_Go Γ (mLn nm) 12 0 0 875 [(3, q_i i), (2, q_r Γ 150), (1, q_r Γ 0), (0, .ref (q_ad Γ 3))] [q_i (s_ff (s_P S) (S 150 6))] (KC, S1) Q
  have e51 : S1 151 = S 151 := O1 151 (by decide)
  have e50 : S1 150 = S 150 := O1 150 (by decide)
  have e54 : S1 154 = S 154 := O1 154 (by decide)
  have e53 : S1 153 = S 153 := O1 153 (by decide)
  have ok1 : s_ok (S1 151) := by rw [e51]; exact ok
  have g0 : 0 ≤ S1 150 2 := by rw [e50]; exact h0
  have g6 : S1 150 2 ≤ 6 := by rw [e50]; exact h6
  have eP : s_P S1 = s_P S := by rw [s_mg_off O1, s_m_P]
  have pd : s_pd S1 (s_P S) := by
    unfold s_pd
    rw [e50, O1 155 (by decide)]
    exact s_P_m J
  refine q_aloadn (pc' := 876) 1 dL_law_875 rfl rfl ?_
  refine q_callVQ (pc' := 879) dL_law_876 rfl lL_101 iX9_fault kc150 rfl (c_X9_fault (S := S1) (P := s_P S) (N := S 150 6) pd (by rw [e50])) rfl rfl (Nat.le_of_ble_eq_true rfl) (Nat.le_of_ble_eq_true rfl) (Nat.le_of_ble_eq_true rfl) (fun v9 w9 h9 => ?_)
  obtain ⟨rfl, _, S3, rfl, o3⟩ := h9
  show q_Go Γ (mLn nm) 12 0 0 879 [(3, q_i i), (2, q_r Γ 150), (1, q_r Γ 0), (0, .ref (q_ad Γ 3))] [q_i (s_ff (s_P S) (S 150 6)), q_i (s_ff (s_P S) (S 150 6))] (KC, S3) Q
  refine q_icmp_s (tgt := 956) dL_law_879 rfl ?_
  refine q_iinc (pc' := 959) 0 (L' := [(3, q_i (i + 6)), (2, q_r Γ 150), (1, q_r Γ 0), (0, .ref (q_ad Γ 3))]) dL_law_956 rfl rfl (show _ < 4 by decide) rfl ?_
  refine q_goto (pc' := 18) dL_law_959 rfl ?_
  exact back _ (s_Jc_P (s_Jc_1 J1 O1) o3)
set_option maxHeartbeats 2000000 in
theorem c_law_884 {nm : String} {Γ : q_G} {S : q_S} {i : Int} (J : s_Jc S S) (hx : ∀ j, q_rg (q_xs Γ j)) (i0 : 0 ≤ i) (i1 : i + 6 ≤ (q_n Γ : Int)) (iN : (q_n Γ : Int) ≤ 3072) {Q : Option Value → q_W → Prop} (back : ∀ S2, s_Jc S2 S2 → q_Go Γ (mLn nm) 12 0 0 18 [(3, q_i (i + 6)), (2, q_r Γ 150), (1, q_r Γ 0), (0, .ref (q_ad Γ 3))] [] (KC, S2) Q) : q_Go Γ (mLn nm) 12 0 0 884 [(3, q_i i), (2, q_r Γ 150), (1, q_r Γ 0), (0, .ref (q_ad Γ 3))] [] (KC, S) Q := by
  have ok : s_ok (S 151) := J.F.2.1
  have h0 : 0 ≤ S 150 2 := J.nb.1
  have h6 : S 150 2 ≤ 6 := J.nb.2
  have hi : q_rg i := ⟨by omega, by omega⟩
  refine q_aloadn (pc' := 885) 2 dL_law_884 rfl rfl ?_
  refine q_callVQ (pc' := 888) dL_law_885 rfl lL_102 iX8_carryOut kc0 rfl (c_X8_carryOut J) rfl rfl (Nat.le_of_ble_eq_true rfl) (Nat.le_of_ble_eq_true rfl) (Nat.le_of_ble_eq_true rfl) (fun v9 w9 h9 => ?_)
  obtain ⟨rfl, S1, rfl, J1, O1⟩ := h9
  show q_Go Γ (mLn nm) 12 0 0 888 [(3, q_i i), (2, q_r Γ 150), (1, q_r Γ 0), (0, .ref (q_ad Γ 3))] [q_i (s_coV (s_P S) (S 150 6) (S 151))] (KC, S1) Q
  have e51 : S1 151 = S 151 := O1 151 (by decide)
  have e50 : S1 150 = S 150 := O1 150 (by decide)
  have e54 : S1 154 = S 154 := O1 154 (by decide)
  have e53 : S1 153 = S 153 := O1 153 (by decide)
  have ok1 : s_ok (S1 151) := by rw [e51]; exact ok
  have g0 : 0 ≤ S1 150 2 := by rw [e50]; exact h0
  have g6 : S1 150 2 ≤ 6 := by rw [e50]; exact h6
  have eP : s_P S1 = s_P S := by rw [s_mg_off O1, s_m_P]
  have pd : s_pd S1 (s_P S) := by
    unfold s_pd
    rw [e50, O1 155 (by decide)]
    exact s_P_m J
  refine q_aloadn (pc' := 889) 1 dL_law_888 rfl rfl ?_
  refine q_callVQ (pc' := 892) dL_law_889 rfl lL_105 iX9_carryOut kc150 rfl (c_X9_carryOut (S := S1) (P := s_P S) (N := S 150 6) pd (by rw [e50]) ok1 g0 g6) rfl rfl (Nat.le_of_ble_eq_true rfl) (Nat.le_of_ble_eq_true rfl) (Nat.le_of_ble_eq_true rfl) (fun v9 w9 h9 => ?_)
  obtain ⟨rfl, S3, rfl, o3⟩ := h9
  show q_Go Γ (mLn nm) 12 0 0 892 [(3, q_i i), (2, q_r Γ 150), (1, q_r Γ 0), (0, .ref (q_ad Γ 3))] [q_i (s_coV (s_P S) (S 150 6) (S1 151)), q_i (s_coV (s_P S) (S 150 6) (S 151))] (KC, S3) Q
  rw [e51]
  refine q_icmp_s (tgt := 956) dL_law_892 rfl ?_
  refine q_iinc (pc' := 959) 0 (L' := [(3, q_i (i + 6)), (2, q_r Γ 150), (1, q_r Γ 0), (0, .ref (q_ad Γ 3))]) dL_law_956 rfl rfl (show _ < 4 by decide) rfl ?_
  refine q_goto (pc' := 18) dL_law_959 rfl ?_
  refine back _ (s_Jc_P ?_ o3)
  rw [s_mg_off O1, s_m_co]
  exact s_Jc_mg J1
set_option maxHeartbeats 2000000 in
theorem c_law_897 {nm : String} {Γ : q_G} {S : q_S} {i : Int} (J : s_Jc S S) (hx : ∀ j, q_rg (q_xs Γ j)) (i0 : 0 ≤ i) (i1 : i + 6 ≤ (q_n Γ : Int)) (iN : (q_n Γ : Int) ≤ 3072) {Q : Option Value → q_W → Prop} (back : ∀ S2, s_Jc S2 S2 → q_Go Γ (mLn nm) 12 0 0 18 [(3, q_i (i + 6)), (2, q_r Γ 150), (1, q_r Γ 0), (0, .ref (q_ad Γ 3))] [] (KC, S2) Q) : q_Go Γ (mLn nm) 12 0 0 897 [(3, q_i i), (2, q_r Γ 150), (1, q_r Γ 0), (0, .ref (q_ad Γ 3))] [] (KC, S) Q := by
  have ok : s_ok (S 151) := J.F.2.1
  have h0 : 0 ≤ S 150 2 := J.nb.1
  have h6 : S 150 2 ≤ 6 := J.nb.2
  have hi : q_rg i := ⟨by omega, by omega⟩
  refine q_aloadn (pc' := 898) 2 dL_law_897 rfl rfl ?_
  refine q_callVQ (pc' := 901) dL_law_898 rfl lL_106 iX8_undo kc0 rfl (c_X8_undo J) rfl rfl (Nat.le_of_ble_eq_true rfl) (Nat.le_of_ble_eq_true rfl) (Nat.le_of_ble_eq_true rfl) (fun v9 w9 h9 => ?_)
  obtain ⟨rfl, S1, rfl, J1, O1⟩ := h9
  show q_Go Γ (mLn nm) 12 0 0 901 [(3, q_i i), (2, q_r Γ 150), (1, q_r Γ 0), (0, .ref (q_ad Γ 3))] [q_i (s_undoV S)] (KC, S1) Q
  have e51 : S1 151 = S 151 := O1 151 (by decide)
  have e50 : S1 150 = S 150 := O1 150 (by decide)
  have e54 : S1 154 = S 154 := O1 154 (by decide)
  have e53 : S1 153 = S 153 := O1 153 (by decide)
  have ok1 : s_ok (S1 151) := by rw [e51]; exact ok
  have g0 : 0 ≤ S1 150 2 := by rw [e50]; exact h0
  have g6 : S1 150 2 ≤ 6 := by rw [e50]; exact h6
  refine q_aloadn (pc' := 902) 1 dL_law_901 rfl rfl ?_
  refine q_callVI (pc' := 905) dL_law_902 rfl lL_109 iX9_undo kc150 rfl (c_X9_undo (S := S1) g0 g6) rfl rfl (Nat.le_of_ble_eq_true rfl) (Nat.le_of_ble_eq_true rfl) (Nat.le_of_ble_eq_true rfl) ?_
  show q_Go Γ (mLn nm) 12 0 0 905 [(3, q_i i), (2, q_r Γ 150), (1, q_r Γ 0), (0, .ref (q_ad Γ 3))] [q_i (s_undoV S1), q_i (s_undoV S)] (KC, s_undoS S1) Q
  have eV : s_undoV S1 = s_undoV S := by unfold s_undoV; rw [e50]
  rw [eV]
  refine q_icmp_s (tgt := 956) dL_law_905 rfl ?_
  refine q_iinc (pc' := 959) 0 (L' := [(3, q_i (i + 6)), (2, q_r Γ 150), (1, q_r Γ 0), (0, .ref (q_ad Γ 3))]) dL_law_956 rfl rfl (show _ < 4 by decide) rfl ?_
  refine q_goto (pc' := 18) dL_law_959 rfl ?_
  refine back _ ?_
  rw [s_mg_off O1, s_m_undo]
  exact s_Jc_mg J1
set_option maxHeartbeats 2000000 in
theorem c_law_910 {nm : String} {Γ : q_G} {S : q_S} {i : Int} (J : s_Jc S S) (hx : ∀ j, q_rg (q_xs Γ j)) (i0 : 0 ≤ i) (i1 : i + 6 ≤ (q_n Γ : Int)) (iN : (q_n Γ : Int) ≤ 3072) {Q : Option Value → q_W → Prop} (back : ∀ S2, s_Jc S2 S2 → q_Go Γ (mLn nm) 12 0 0 18 [(3, q_i (i + 6)), (2, q_r Γ 150), (1, q_r Γ 0), (0, .ref (q_ad Γ 3))] [] (KC, S2) Q) : q_Go Γ (mLn nm) 12 0 0 910 [(3, q_i i), (2, q_r Γ 150), (1, q_r Γ 0), (0, .ref (q_ad Γ 3))] [] (KC, S) Q := by
  have ok : s_ok (S 151) := J.F.2.1
  have h0 : 0 ≤ S 150 2 := J.nb.1
  have h6 : S 150 2 ≤ 6 := J.nb.2
  have hi : q_rg i := ⟨by omega, by omega⟩
  refine q_aloadn (pc' := 911) 2 dL_law_910 rfl rfl ?_
  refine q_aloadn (pc' := 912) 3 dL_law_911 rfl rfl ?_
  refine q_iloadn (pc' := 913) 0 dL_law_912 rfl rfl ?_
  refine q_iconst (pc' := 914) dL_law_913 rfl ?_
  refine q_iadd (pc' := 915) dL_law_914 rfl ?_
  refine q_tald (i := 3) (pc' := 916) dL_law_915 rfl (by decide) (by omega) (show _ < ((q_n Γ : Nat) : Int) by omega) (by omega) ?_
  refine q_callVQ (pc' := 919) dL_law_916 rfl lL_110 iX8_save kc0 rfl (c_X8_save J (hx _)) rfl rfl (Nat.le_of_ble_eq_true rfl) (Nat.le_of_ble_eq_true rfl) (Nat.le_of_ble_eq_true rfl) (fun v9 w9 h9 => ?_)
  obtain ⟨rfl, S1, rfl, J1, O1⟩ := h9
  show q_Go Γ (mLn nm) 12 0 0 919 [(3, q_i i), (2, q_r Γ 150), (1, q_r Γ 0), (0, .ref (q_ad Γ 3))] [q_i (s_saveV S (q_xs Γ (i + 1).toNat))] (KC, S1) Q
  have e51 : S1 151 = S 151 := O1 151 (by decide)
  have e50 : S1 150 = S 150 := O1 150 (by decide)
  have e54 : S1 154 = S 154 := O1 154 (by decide)
  have e53 : S1 153 = S 153 := O1 153 (by decide)
  have ok1 : s_ok (S1 151) := by rw [e51]; exact ok
  have g0 : 0 ≤ S1 150 2 := by rw [e50]; exact h0
  have g6 : S1 150 2 ≤ 6 := by rw [e50]; exact h6
  refine q_aloadn (pc' := 920) 1 dL_law_919 rfl rfl ?_
  refine q_aloadn (pc' := 921) 3 dL_law_920 rfl rfl ?_
  refine q_iloadn (pc' := 922) 0 dL_law_921 rfl rfl ?_
  refine q_iconst (pc' := 923) dL_law_922 rfl ?_
  refine q_iadd (pc' := 924) dL_law_923 rfl ?_
  refine q_tald (i := 3) (pc' := 925) dL_law_924 rfl (by decide) (by omega) (show _ < ((q_n Γ : Nat) : Int) by omega) (by omega) ?_
  refine q_callVI (pc' := 928) dL_law_925 rfl lL_113 iX9_save kc150 rfl (c_X9_save (S := S1) (hx _)) rfl rfl (Nat.le_of_ble_eq_true rfl) (Nat.le_of_ble_eq_true rfl) (Nat.le_of_ble_eq_true rfl) ?_
  show q_Go Γ (mLn nm) 12 0 0 928 [(3, q_i i), (2, q_r Γ 150), (1, q_r Γ 0), (0, .ref (q_ad Γ 3))] [q_i (s_saveV S1 (q_xs Γ (i + 1).toNat)), q_i (s_saveV S (q_xs Γ (i + 1).toNat))] (KC, s_saveS S1 (q_xs Γ (i + 1).toNat)) Q
  have eV : s_saveV S1 (q_xs Γ (i + 1).toNat) = s_saveV S (q_xs Γ (i + 1).toNat) := by unfold s_saveV; rw [e51]
  rw [eV]
  refine q_icmp_s (tgt := 956) dL_law_928 rfl ?_
  refine q_iinc (pc' := 959) 0 (L' := [(3, q_i (i + 6)), (2, q_r Γ 150), (1, q_r Γ 0), (0, .ref (q_ad Γ 3))]) dL_law_956 rfl rfl (show _ < 4 by decide) rfl ?_
  refine q_goto (pc' := 18) dL_law_959 rfl ?_
  refine back _ ?_
  rw [s_mg_off O1, s_m_save]
  exact s_Jc_mg J1
set_option maxHeartbeats 2000000 in
theorem c_law_933 {nm : String} {Γ : q_G} {S : q_S} {i : Int} (J : s_Jc S S) (hx : ∀ j, q_rg (q_xs Γ j)) (i0 : 0 ≤ i) (i1 : i + 6 ≤ (q_n Γ : Int)) (iN : (q_n Γ : Int) ≤ 3072) {Q : Option Value → q_W → Prop} (back : ∀ S2, s_Jc S2 S2 → q_Go Γ (mLn nm) 12 0 0 18 [(3, q_i (i + 6)), (2, q_r Γ 150), (1, q_r Γ 0), (0, .ref (q_ad Γ 3))] [] (KC, S2) Q) : q_Go Γ (mLn nm) 12 0 0 933 [(3, q_i i), (2, q_r Γ 150), (1, q_r Γ 0), (0, .ref (q_ad Γ 3))] [] (KC, S) Q := by
  have ok : s_ok (S 151) := J.F.2.1
  have h0 : 0 ≤ S 150 2 := J.nb.1
  have h6 : S 150 2 ≤ 6 := J.nb.2
  have hi : q_rg i := ⟨by omega, by omega⟩
  refine q_aloadn (pc' := 934) 2 dL_law_933 rfl rfl ?_
  refine q_aloadn (pc' := 935) 3 dL_law_934 rfl rfl ?_
  refine q_iloadn (pc' := 936) 0 dL_law_935 rfl rfl ?_
  refine q_iconst (pc' := 937) dL_law_936 rfl ?_
  refine q_iadd (pc' := 938) dL_law_937 rfl ?_
  refine q_tald (i := 3) (pc' := 939) dL_law_938 rfl (by decide) (by omega) (show _ < ((q_n Γ : Nat) : Int) by omega) (by omega) ?_
  refine q_callVQ (pc' := 942) dL_law_939 rfl lL_114 iX8_restore kc0 rfl (c_X8_restore J (hx _)) rfl rfl (Nat.le_of_ble_eq_true rfl) (Nat.le_of_ble_eq_true rfl) (Nat.le_of_ble_eq_true rfl) (fun v9 w9 h9 => ?_)
  obtain ⟨rfl, S1, rfl, J1, O1⟩ := h9
  show q_Go Γ (mLn nm) 12 0 0 942 [(3, q_i i), (2, q_r Γ 150), (1, q_r Γ 0), (0, .ref (q_ad Γ 3))] [q_i (s_restV S (q_xs Γ (i + 1).toNat))] (KC, S1) Q
  have e51 : S1 151 = S 151 := O1 151 (by decide)
  have e50 : S1 150 = S 150 := O1 150 (by decide)
  have e54 : S1 154 = S 154 := O1 154 (by decide)
  have e53 : S1 153 = S 153 := O1 153 (by decide)
  have ok1 : s_ok (S1 151) := by rw [e51]; exact ok
  have g0 : 0 ≤ S1 150 2 := by rw [e50]; exact h0
  have g6 : S1 150 2 ≤ 6 := by rw [e50]; exact h6
  refine q_aloadn (pc' := 943) 1 dL_law_942 rfl rfl ?_
  refine q_aloadn (pc' := 944) 3 dL_law_943 rfl rfl ?_
  refine q_iloadn (pc' := 945) 0 dL_law_944 rfl rfl ?_
  refine q_iconst (pc' := 946) dL_law_945 rfl ?_
  refine q_iadd (pc' := 947) dL_law_946 rfl ?_
  refine q_tald (i := 3) (pc' := 948) dL_law_947 rfl (by decide) (by omega) (show _ < ((q_n Γ : Nat) : Int) by omega) (by omega) ?_
  refine q_callVI (pc' := 951) dL_law_948 rfl lL_117 iX9_restore kc150 rfl (c_X9_restore (S := S1) g0 g6 (hx _)) rfl rfl (Nat.le_of_ble_eq_true rfl) (Nat.le_of_ble_eq_true rfl) (Nat.le_of_ble_eq_true rfl) ?_
  show q_Go Γ (mLn nm) 12 0 0 951 [(3, q_i i), (2, q_r Γ 150), (1, q_r Γ 0), (0, .ref (q_ad Γ 3))] [q_i (s_restV S1 (q_xs Γ (i + 1).toNat)), q_i (s_restV S (q_xs Γ (i + 1).toNat))] (KC, s_restS S1 (q_xs Γ (i + 1).toNat)) Q
  have eV : s_restV S1 (q_xs Γ (i + 1).toNat) = s_restV S (q_xs Γ (i + 1).toNat) := by unfold s_restV; rw [e54, e53]
  rw [eV]
  refine q_icmp_s (tgt := 956) dL_law_951 rfl ?_
  refine q_iinc (pc' := 959) 0 (L' := [(3, q_i (i + 6)), (2, q_r Γ 150), (1, q_r Γ 0), (0, .ref (q_ad Γ 3))]) dL_law_956 rfl rfl (show _ < 4 by decide) rfl ?_
  refine q_goto (pc' := 18) dL_law_959 rfl ?_
  refine back _ ?_
  rw [s_mg_off O1, s_m_rest]
  exact s_Jc_mg J1
