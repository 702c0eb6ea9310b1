/-! the other calls' words -/
theorem s_F_back {S : q_S} {φ : Int → Int} {c : Nat} {k n : Int} (F : s_F S 1 φ) (ok : s_ok φ) (hk : 0 ≤ k ∧ k ≤ 1) (hc : (k = 0 ∧ c = 8) ∨ (k ≠ 0 ∧ c = 11)) : s_F (if 0 ≤ n ∧ n < S c 0 then s_clS S c n else S) 1 (s_backP φ k n) ∧ s_offF S (if 0 ≤ n ∧ n < S c 0 then s_clS S c n else S) ∧ (if 0 ≤ n ∧ n < S c 0 then S c 0 - 1 else -1) = s_backV φ k n := by
  have c3 := ok.2.2.1
  have c4 := ok.2.2.2.1
  rcases hc with ⟨rfl, rfl⟩ | ⟨h1, rfl⟩
  · rw [s_F_an F]
    have e : (3 : Int) + 0 = 3 := rfl
    by_cases g : 0 ≤ n ∧ n < φ 3
    · have v : s_backV φ 0 n = φ 3 - 1 := by unfold s_backV; rw [if_neg (by decide), e, if_neg (by omega)]
      rw [if_pos g, if_pos g]
      unfold s_backP
      rw [v, if_neg (by omega), if_pos rfl]
      exact ⟨s_F_cl8 F g.1 g.2 c3.2 c4.2, s_offF_cl (by decide), rfl⟩
    · have v : s_backV φ 0 n = -1 := by unfold s_backV; rw [if_neg (by decide), e, if_pos (by omega)]
      rw [if_neg g, if_neg g]
      unfold s_backP
      rw [v, if_pos (by decide)]
      exact ⟨F, s_offF_r, rfl⟩
  · obtain rfl : k = 1 := by omega
    rw [s_F_bn F]
    have e : (3 : Int) + 1 = 4 := rfl
    by_cases g : 0 ≤ n ∧ n < φ 4
    · have v : s_backV φ 1 n = φ 4 - 1 := by unfold s_backV; rw [if_neg (by decide), e, if_neg (by omega)]
      rw [if_pos g, if_pos g]
      unfold s_backP
      rw [v, if_neg (by omega), if_neg (by decide)]
      exact ⟨s_F_cl11 F g.1 g.2 c3.2 c4.2, s_offF_cl (by decide), rfl⟩
    · have v : s_backV φ 1 n = -1 := by unfold s_backV; rw [if_neg (by decide), e, if_pos (by omega)]
      rw [if_neg g, if_neg g]
      unfold s_backP
      rw [v, if_pos (by decide)]
      exact ⟨F, s_offF_r, rfl⟩
theorem s_rg_back {φ : Int → Int} (ok : s_ok φ) (k n : Int) : q_rg (s_backV φ k n) := by
  have c3 := ok.2.2.1
  have c4 := ok.2.2.2.1
  unfold s_backV
  by_cases h : ¬ (0 ≤ k ∧ k ≤ 1)
  · rw [if_pos h]; decide
  · rw [if_neg h]
    rcases (show k = 0 ∨ k = 1 by omega) with rfl | rfl
    · rw [show (3 : Int) + 0 = 3 from rfl]; split <;> exact ⟨by omega, by omega⟩
    · rw [show (3 : Int) + 1 = 4 from rfl]; split <;> exact ⟨by omega, by omega⟩
/-- only the pad changes -/
theorem s_J_pad {S S2 A A2 : q_S} (J : s_Jc S A) (h : ∀ a : Nat, a ≠ 25 → a ≠ 26 → S2 a = S a) (g : ∀ a : Nat, a ≠ 150 → a ≠ 155 → A2 a = A a) (g2 : A2 150 2 = A 150 2) (hp : S2 25 1 = A2 150 6 ∧ (0 ≤ A2 150 6 ∧ A2 150 6 ≤ 80)) (hs : ∀ z, 0 ≤ z → z < A2 150 6 → S2 26 z = A2 155 z ∧ 33 ≤ A2 155 z ∧ A2 155 z ≤ 126) : s_Jc S2 A2 := by
  have st : ∀ f χ, 26 < f ∨ f = 1 → s_st S f χ → s_st S2 f χ := fun f χ hf H => s_st_o H (fun a x y => h a (by omega) (by omega))
  have e30 := h 30 (by decide) (by decide)
  refine ⟨?_, ?_, ?_, ?_, fun i i0 i1 => ?_, fun k k0 k1 => ?_, fun k k0 k1 hk => ?_, hp, hs⟩
  · rw [g 151 (by decide) (by decide)]; exact st 1 _ (Or.inr rfl) J.F
  · rw [h 29 (by decide) (by decide), g2]; exact J.n
  · rw [g2]; exact J.nb
  · have q := J.hs
    unfold s_hs at q ⊢
    rw [e30]; exact q
  · rw [g2] at i1
    have q := s_hF_i (J.f i0 (show i < 7 by have := J.nb; omega)).2
    unfold s_hi
    rw [e30, g 152 (by decide) (by decide)]
    exact st _ _ (Or.inl (by omega)) (J.h i i0 i1)
  · rw [h 149 (by decide) (by decide), h 122 (by decide) (by decide), g 154 (by decide) (by decide)]; exact J.s1 k k0 k1
  · rw [g 154 (by decide) (by decide)] at hk
    have q := s_sb_b k
    unfold s_sl
    rw [g 153 (by decide) (by decide)]
    exact st _ _ (Or.inl (by omega)) (J.s2 k k0 k1 hk)
theorem s_J_put {S A : q_S} (J : s_Jc S A) (N0 : Nat) : s_Jc (s_putC S N0) (s_putS A N0) ∧ s_offM S (s_putC S N0) := by
  have p := J.p
  unfold s_putC s_putS
  by_cases h : s_cn N0 ≠ 0 ∧ S 25 1 + s_cn N0 ≤ 80
  · have c := s_cn_c h.1
    have b := s_cn_b N0
    rw [if_pos h, ← c.2, if_pos ⟨by rw [c.2]; exact c.1, by omega⟩]
    refine ⟨s_J_pad J (fun a h1 h2 => ?_) (fun a h1 h2 => ?_) ?_ ?_ (fun z z0 z1 => ?_), fun a ha => ?_⟩
    · rw [q_up_ne h1, s_apC_ne h2]
    · rw [q_up_ne h1]
      funext z
      unfold s_app
      rw [if_neg (by omega)]
    · rw [q_up_nz (by decide)]
      show (if (150 : Nat) = 155 ∧ _ then _ else A 150 2) = A 150 2
      rw [if_neg (by omega)]
    · rw [q_up_eq, q_up_eq, p.1]; omega
    · rw [q_up_eq] at z1
      rw [q_up_ne (show 26 ≠ 25 by decide), q_up_ne (show 155 ≠ 150 by decide)]
      show s_apC S (S 25 1) N0 (s_cn N0) (s_cn N0) 26 z = s_app A (A 150 6) N0 (s_cn N0) (s_cn N0) 155 z ∧ 33 ≤ s_app A (A 150 6) N0 (s_cn N0) (s_cn N0) 155 z ∧ s_app A (A 150 6) N0 (s_cn N0) (s_cn N0) 155 z ≤ 126
      unfold s_apC s_app
      rcases (show z < A 150 6 ∨ A 150 6 ≤ z by omega) with g | g
      · rw [if_neg (by omega), if_neg (by omega)]; exact J.ps z z0 g
      · rw [if_pos (by omega), if_pos (by omega), p.1, show s_cn N0 - 1 - (z - A 150 6) = A 150 6 + s_cn N0 - 1 - z by omega]
        refine ⟨rfl, c.1.2.1 _ (by omega) ?_⟩
        rw [← c.2]; omega
    · rw [q_up_ne (by omega), s_apC_ne (by omega)]
  · have h2 : ¬ (s_svn N0 (s_sc 8 N0 : Nat) ∧ A 150 6 + (s_sc 8 N0 : Nat) ≤ 80) := fun q => by
      have e : s_cn N0 = (s_sc 8 N0 : Nat) := q_if_t q.1
      exact h ⟨fun z => q.1.1 (by omega), by omega⟩
    rw [if_neg h, if_neg h2]
    exact ⟨J, fun _ _ => rfl⟩
theorem s_J_wipe {S A : q_S} (J : s_Jc S A) : s_Jc (q_up S 25 1 0) (q_up A 150 6 0) ∧ s_offM S (q_up S 25 1 0) := by
  refine ⟨s_J_pad J (fun a h1 h2 => q_up_ne h1) (fun a h1 h2 => q_up_ne h1) (q_up_nz (by decide)) ?_ (fun z z0 z1 => ?_), fun a ha => q_up_ne (by omega)⟩
  · rw [q_up_eq, q_up_eq]; decide
  · rw [q_up_eq] at z1; omega
def s_P (A : q_S) (z : Int) : Int := if 0 ≤ z ∧ z < A 150 6 then A 155 z else -1
theorem s_J_undo {S A : q_S} (J : s_Jc S A) : s_Jc (if S 29 0 = 0 then S else s_cpF (q_up S 29 0 (S 29 0 - 1)) 1 (S 30 (S 29 0 - 1)).toNat) (s_undoS A) ∧ s_offM S (if S 29 0 = 0 then S else s_cpF (q_up S 29 0 (S 29 0 - 1)) 1 (S 30 (S 29 0 - 1)).toNat) ∧ (if S 29 0 = 0 then -5 else S 29 0 - 1) = s_undoV A := by
  have n := J.n
  have nb := J.nb
  unfold s_undoS s_undoV
  rw [n]
  by_cases h : A 150 2 = 0
  · rw [if_pos h, if_pos h, if_pos h]; exact ⟨J, fun _ _ => rfl, rfl⟩
  · rw [if_neg h, if_neg h, if_neg h]
    have f := J.f (i := A 150 2 - 1) (by omega) (by omega)
    have fi := s_hF_i f.2
    have hO : ∀ a : Nat, 12 < a → a ≠ 29 → s_cpF (q_up S 29 0 (A 150 2 - 1)) 1 (S 30 (A 150 2 - 1)).toNat a = S a := fun a h1 h2 => (s_cpF_o (by omega)).trans (q_up_ne h2)
    have a2 : q_cp (q_up A 150 2 (A 150 2 - 1)) 152 151 ((A 150 2 - 1) * 489) 0 489 150 2 = A 150 2 - 1 := by rw [q_cp_ne (by decide), q_up_eq]
    have a6 : q_cp (q_up A 150 2 (A 150 2 - 1)) 152 151 ((A 150 2 - 1) * 489) 0 489 150 6 = A 150 6 := by rw [q_cp_ne (by decide), q_up_nz (by decide)]
    have ao : ∀ a : Nat, a ≠ 150 → a ≠ 151 → q_cp (q_up A 150 2 (A 150 2 - 1)) 152 151 ((A 150 2 - 1) * 489) 0 489 a = A a := fun a h1 h2 => by rw [q_cp_ne h2, q_up_ne h1]
    have st : ∀ g χ, 29 < g → s_st S g χ → s_st (s_cpF (q_up S 29 0 (A 150 2 - 1)) 1 (S 30 (A 150 2 - 1)).toNat) g χ := fun g χ hg H => s_st_o H (fun a x y => hO a (by omega) (by omega))
    refine ⟨⟨?_, ?_, ?_, ?_, fun i i0 i1 => ?_, fun k k0 k1 => ?_, fun k k0 k1 hk => ?_, ?_, fun z z0 z1 => ?_⟩, fun a ha => hO a (by omega) (by omega), rfl⟩
    · have q : s_st (q_up S 29 0 (A 150 2 - 1)) (S 30 (A 150 2 - 1)).toNat (s_hi A (A 150 2 - 1)) := s_st_o (J.h _ (by omega) (by omega)) (fun a x y => q_up_ne (by omega))
      refine s_st_cg (s_st_cp (by omega) q) (fun z z0 z1 => ?_)
      rw [q_cp_in (by omega) (by omega), q_up_ne (by decide)]
      exact congrArg _ (by omega)
    · rw [a2, s_cpF_o (by omega), q_up_eq]
    · rw [a2]; omega
    · have q := J.hs
      unfold s_hs at q ⊢
      rw [hO 30 (by omega) (by omega)]; exact q
    · rw [a2] at i1
      have q := s_hF_i (J.f i0 (show i < 7 by omega)).2
      unfold s_hi
      rw [hO 30 (by omega) (by omega), ao 152 (by decide) (by decide)]
      exact st _ _ (by omega) (J.h i i0 (by omega))
    · rw [hO 149 (by omega) (by omega), hO 122 (by omega) (by omega), ao 154 (by decide) (by decide)]; exact J.s1 k k0 k1
    · rw [ao 154 (by decide) (by decide)] at hk
      have q := s_sb_b k
      unfold s_sl
      rw [ao 153 (by decide) (by decide)]
      exact st _ _ (by omega) (J.s2 k k0 k1 hk)
    · rw [a6, hO 25 (by omega) (by omega)]; exact J.p
    · rw [a6] at z1
      rw [hO 26 (by omega) (by omega), ao 155 (by decide) (by decide)]; exact J.ps z z0 z1
theorem s_bF_s {k : Int} (h0 : 0 ≤ k) (h1 : k ≤ 1) : s_bF (s_sb k) := by
  rcases (show k = 0 ∨ k = 1 by omega) with rfl | rfl
  · exact s_bF_123
  · exact s_bF_136
theorem s_J_save {S A : q_S} {k : Int} (J : s_Jc S A) (h0 : 0 ≤ k) (h1 : k ≤ 1) : s_Jc (q_up (s_cpF S (s_sb k) 1) 149 k 1) (q_up (q_cp A 151 153 0 (489 * k) 489) 154 k 1) ∧ s_offM S (q_up (s_cpF S (s_sb k) 1) 149 k 1) := by
  have b := s_sb_b k
  have nb := J.nb
  have hO : ∀ a : Nat, (a < s_sb k ∨ s_sb k + 11 < a) → a ≠ 149 → q_up (s_cpF S (s_sb k) 1) 149 k 1 a = S a := fun a x y => (q_up_ne y).trans (s_cpF_o x)
  have aO : ∀ a : Nat, a ≠ 153 → a ≠ 154 → q_up (q_cp A 151 153 0 (489 * k) 489) 154 k 1 a = A a := fun a x y => (q_up_ne y).trans (q_cp_ne x)
  have e30 := hO 30 (by omega) (by decide)
  refine ⟨⟨?_, ?_, ?_, ?_, fun i i0 i1 => ?_, fun m m0 m1 => ?_, fun m m0 m1 hm => ?_, ?_, fun z z0 z1 => ?_⟩, fun a ha => hO a (by omega) (by omega)⟩
  · rw [aO 151 (by decide) (by decide)]; exact s_st_o J.F (fun a x y => hO a (by omega) (by omega))
  · rw [hO 29 (by omega) (by decide), aO 150 (by decide) (by decide)]; exact J.n
  · rw [aO 150 (by decide) (by decide)]; exact nb
  · have q := J.hs
    unfold s_hs at q ⊢
    rw [e30]; exact q
  · rw [aO 150 (by decide) (by decide)] at i1
    have q := s_hF_i (J.f i0 (show i < 7 by omega)).2
    unfold s_hi
    rw [e30, aO 152 (by decide) (by decide)]
    exact s_st_o (J.h i i0 i1) (fun a x y => hO a (by omega) (by omega))
  · rw [hO 122 (by omega) (by decide)]
    have q := J.s1 m m0 m1
    by_cases e : m = k
    · subst e
      rw [q_up_eq, q_up_eq]; exact ⟨rfl, Or.inr rfl, q.2.2⟩
    · rw [q_up_nz e, q_up_nz e, s_cpF_o (by unfold s_sb; split <;> omega), q_cp_ne (by decide)]; exact q
  · by_cases e : m = k
    · subst e
      refine s_st_o (s_st_cg (s_st_cp (f := s_sb m) (g := 1) (by omega) J.F) (fun z z0 z1 => ?_)) (fun a x y => q_up_ne (by unfold s_sb at y; split at y <;> omega))
      unfold s_sl
      rw [q_up_ne (by decide), q_cp_in (by omega) (by omega)]
      exact congrArg _ (by omega)
    · rw [q_up_nz e, q_cp_ne (by decide)] at hm
      have q := J.s2 m m0 m1 hm
      have d : s_sb m + 11 < s_sb k ∨ s_sb k + 11 < s_sb m := by
        rcases (show (m = 0 ∧ k = 1) ∨ (m = 1 ∧ k = 0) by omega) with ⟨rfl, rfl⟩ | ⟨rfl, rfl⟩
        · exact Or.inl (by decide)
        · exact Or.inr (by decide)
      have bm := s_sb_b m
      have b9 : s_sb m + 11 < 149 := by unfold s_sb; split <;> omega
      refine s_st_cg (s_st_o q (fun a x y => hO a (by omega) (by omega))) (fun z z0 z1 => ?_)
      unfold s_sl
      rw [q_up_ne (by decide)]
      rcases (show (m = 0 ∧ k = 1) ∨ (m = 1 ∧ k = 0) by omega) with ⟨rfl, rfl⟩ | ⟨rfl, rfl⟩
      · exact q_cp_lo (by omega)
      · exact q_cp_hi (by omega)
  · rw [aO 150 (by decide) (by decide), hO 25 (by omega) (by decide)]; exact J.p
  · rw [aO 150 (by decide) (by decide)] at z1
    rw [hO 26 (by omega) (by decide), aO 155 (by decide) (by decide)]; exact J.ps z z0 z1
def s_rsP (A : q_S) (k z : Int) : Int := if 0 ≤ z ∧ z < 489 then A 153 (489 * k + z) else A 151 z
theorem s_rsP_e (A : q_S) (k z : Int) (h0 : 0 ≤ z) (h1 : z < 489) : s_rsP A k z = s_sl A k z := if_pos ⟨h0, h1⟩
theorem s_st_rs {S A : q_S} {k : Int} (J : s_Jc S A) (h0 : 0 ≤ k) (h1 : k ≤ 1) (hs : A 154 k = 1) : s_st (s_cpF (s_mk S) 1 (s_sb k)) 1 (s_rsP A k) ∧ s_offX (s_mk S) (s_cpF (s_mk S) 1 (s_sb k)) := by
  have b := s_sb_b k
  have q : s_st (s_mk S) (s_sb k) (s_sl A k) := s_st_o (J.s2 k h0 h1 hs) (fun a x y => s_mk_o J (by omega))
  exact ⟨s_st_cg (s_st_cp (by omega) q) (fun z z0 z1 => s_rsP_e A k z z0 z1), fun a ha => s_cpF_o (by omega)⟩
theorem s_a_rs {A : q_S} {k : Int} (h0 : 0 ≤ k) (h1 : k ≤ 1) (hs : A 154 k = 1) (ok : s_ok (s_rsP A k)) : s_aft A (s_rsP A k) (s_rsP A k 0) = s_restS A k ∧ s_rsP A k 0 = s_restV A k := by
  have c0 := ok.1
  unfold s_aft s_restS s_restV
  rw [if_neg (by omega), if_neg (by omega), if_neg (by omega), if_neg (by omega), if_neg (by omega)]
  refine ⟨?_, ?_⟩
  · funext a z
    unfold q_w1 q_cp s_rsP
    by_cases e : a = 151
    · subst e
      rw [if_pos rfl]
      by_cases g : 0 ≤ z ∧ z < 489
      · rw [if_pos g, if_pos ⟨rfl, by omega, by omega⟩, s_rec_ne (by decide) (by decide)]
        exact congrArg _ (by omega)
      · rw [if_neg g, if_neg (by omega), s_rec_151]
    · rw [if_neg e, if_neg (by omega)]
  · show s_rsP A k 0 = A 153 (489 * k)
    unfold s_rsP
    rw [if_pos (by decide), Int.add_zero]
noncomputable def s_gm (φ : Int → Int) (a b w : Int) : Int := if w = 0 then s_yo φ a else if w = 1 then -(s_yo φ b) else s_all φ
theorem s_gm_b {φ : Int → Int} (ok : s_ok φ) {a b : Int} (w : Int) (a0 : 0 ≤ a) (a1 : a < 6) (b0 : 0 ≤ b) (b1 : b < 6) : -4200 ≤ s_gm φ a b w ∧ s_gm φ a b w ≤ 25200 := by
  have x := s_yo_b ok a0 a1
  have y := s_yo_b ok b0 b1
  have z := s_all_b ok
  unfold s_gm
  split
  · omega
  · split <;> omega
theorem s_worth_e {φ : Int → Int} {a b h u w : Int} (g : ¬ s_wGrant φ a b h u < 0) (hw : 0 ≤ w ∧ w ≤ 2) : s_gm (s_grantP φ a b h u) a b w - s_gm φ a b w + 1000000 = s_worth φ a b h u w := by
  rw [show s_grantP φ a b h u = s_set φ (39 + 10 * (6 * a + b) + h) u from if_neg g]
  unfold s_worth
  rw [if_neg g, if_neg (show ¬ ¬ (0 ≤ w ∧ w ≤ 2) from fun q => q hw)]
  unfold s_gm s_wv
  rcases (show w = 0 ∨ w = 1 ∨ w = 2 by omega) with rfl | rfl | rfl
  · rw [if_pos rfl, if_pos rfl, if_neg (by decide), if_pos rfl, if_pos rfl]; omega
  · rw [if_neg (by decide), if_pos rfl, if_neg (by decide), if_pos rfl, if_pos rfl, if_neg (by decide), if_pos rfl, if_neg (by decide), if_pos rfl]; omega
  · rw [if_neg (by decide), if_neg (by decide), if_neg (by decide), if_neg (by decide), if_neg (by decide), if_neg (by decide), if_neg (by decide), if_neg (by decide), if_neg (by decide)]; omega
theorem s_grant_back {φ : Int → Int} (ok : s_ok φ) {a b h u : Int} (g : ¬ s_wGrant φ a b h u < 0) : s_grantP (s_grantP φ a b h u) a b h (s_grantV φ a b h u) = φ := by
  have c0 := ok.1
  have e : (0 ≤ a ∧ a < φ 0) ∧ (0 ≤ b ∧ b < φ 0) ∧ (0 ≤ h ∧ h < 10) ∧ (0 ≤ u ∧ u ≤ 999) ∧ a ≠ b := by unfold s_wGrant at g; omega
  have q := s_rt_b ok (a := a) (b := b) (h := h) (by omega) (by omega) (by omega) (by omega) (by omega) (by omega)
  have v : s_grantV φ a b h u = s_rt φ a b h := if_neg g
  have p : s_grantP φ a b h u = s_set φ (39 + 10 * (6 * a + b) + h) u := if_neg g
  rw [v, p]
  have g2 : ¬ s_wGrant (s_set φ (39 + 10 * (6 * a + b) + h) u) a b h (s_rt φ a b h) < 0 := by
    unfold s_wGrant
    rw [s_set_ne (by omega)]
    omega
  unfold s_grantP
  rw [if_neg g2, s_set_set]
  exact s_set_self
theorem s_offer_e {S : q_S} {φ : Int → Int} {c : Nat} {k n w : Int} (F : s_F S 1 φ) (ok : s_ok φ) (hc : (k = 0 ∧ c = 8) ∨ (k ≠ 0 ∧ c = 11)) (hk : 0 ≤ k ∧ k ≤ 1) (hw : 0 ≤ w ∧ w ≤ 4) (n0 : 0 ≤ n) (n1 : n < φ (3 + k)) : S (c + 1) (5 * n + w) = s_offer φ k n w := by
  unfold s_offer
  rw [if_neg (by omega), if_neg (by omega)]
  rcases hc with ⟨rfl, rfl⟩ | ⟨h1, rfl⟩
  · rw [if_neg (by decide)]
    have n1 : n < φ 3 := n1
    by_cases e : w = 4
    · rw [if_pos e, e]; exact s_F_a4 F n0 n1
    · rw [if_neg e]; exact s_F_a F n0 n1 hw.1 (by omega)
  · obtain rfl : k = 1 := by omega
    rw [if_pos rfl]
    have n1 : n < φ 4 := n1
    exact s_F_b F n0 n1 hw.1 (by omega)
