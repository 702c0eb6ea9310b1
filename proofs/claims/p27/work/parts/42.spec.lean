/-! the market: a field's offers, added, taken, closed -/
noncomputable def s_askQ (φ : Int → Int) (a h u p : Int) : Int → Int := if s_wAsk φ a h u p < 0 then φ else s_askP φ a h u p
noncomputable def s_bidQ (φ : Int → Int) (b a h u p : Int) : Int → Int := if s_wBid φ b a h u p < 0 then φ else s_bidP φ b a h u p
theorem s_F_add8 {S : q_S} {φ : Int → Int} {a h u p : Int} (F : s_F S 1 φ) (n0 : 0 ≤ φ 3) (n1 : φ 3 < 10) (m1 : φ 4 ≤ 10) : s_F (s_addS S 8 a h u p (-6)) 1 (s_askP φ a h u p) := by
  obtain ⟨k0, k6, kt, kr, kw, kj, kn, km, ka, kb, kc⟩ := F
  have k7 : S 8 0 = φ 3 := kn
  unfold s_F s_addS s_askP
  rw [k7]
  refine ⟨?_, ?_, ?_, fun r' x y => ?_, fun h x y => ?_, fun j x y => ?_, ?_, ?_, fun i q x y x2 y2 => ?_, fun i x y => ?_, fun i q x y x2 y2 => ?_⟩
  · simp only [q_up, s_set, Nat.reduceAdd, Nat.reduceEqDiff, false_and, if_false]; omega
  · simp only [q_up, s_set, Nat.reduceAdd, Nat.reduceEqDiff, false_and, if_false]; omega
  · simp only [q_up, s_set, Nat.reduceAdd, Nat.reduceEqDiff, false_and, if_false]; omega
  · have q := kr r' x y
    simp only [q_up, s_set, s_pt, Nat.reduceAdd, Nat.reduceEqDiff, false_and, if_false] at q ⊢
    omega
  · have q := kw h x y
    simp only [q_up, s_set, Nat.reduceAdd, Nat.reduceEqDiff, false_and, if_false] at q ⊢
    omega
  · have q := kj j x y
    simp only [q_up, s_set, Nat.reduceAdd, Nat.reduceEqDiff, false_and, if_false] at q ⊢
    omega
  · simp only [q_up, s_set, Nat.reduceAdd, Nat.reduceEqDiff, true_and, false_and, if_true, if_false]
  · simp only [q_up, s_set, Nat.reduceAdd, Nat.reduceEqDiff, false_and, if_false] at km ⊢; omega
  · rw [s_set_eq] at y
    rcases (show i < φ 3 ∨ i = φ 3 by omega) with g | g
    · have q := ka i q x g x2 y2
      simp only [q_up, s_set, s_as, Nat.reduceAdd, Nat.reduceEqDiff, true_and, false_and, if_false] at q ⊢
      omega
    · subst g
      simp only [q_up, s_set, s_as, Nat.reduceAdd, Nat.reduceEqDiff, true_and, false_and, if_false]
      rcases (show q = 0 ∨ q = 1 ∨ q = 2 ∨ q = 3 by omega) with rfl | rfl | rfl | rfl <;> omega
  · rw [s_set_eq] at y
    rcases (show i < φ 3 ∨ i = φ 3 by omega) with g | g
    · have q := kb i x g
      simp only [q_up, Nat.reduceAdd, Nat.reduceEqDiff, true_and, false_and, if_false] at q ⊢
      omega
    · subst g
      simp only [q_up, Nat.reduceAdd, Nat.reduceEqDiff, true_and, false_and, if_false]
      omega
  · have y : i < φ 4 := by
      simp only [s_set] at y
      omega
    have q := kc i q x y x2 y2
    simp only [q_up, s_set, s_bd, Nat.reduceAdd, Nat.reduceEqDiff, true_and, false_and, if_false] at q ⊢
    omega
theorem s_F_add11 {S : q_S} {φ : Int → Int} {a h u p b : Int} (F : s_F S 1 φ) (n0 : 0 ≤ φ 4) (n1 : φ 4 < 10) (m1 : φ 3 ≤ 10) : s_F (s_addS S 11 a h u p b) 1 (s_bidP φ b a h u p) := by
  obtain ⟨k0, k6, kt, kr, kw, kj, kn, km, ka, kb, kc⟩ := F
  have k7 : S 11 0 = φ 4 := km
  unfold s_F s_addS s_bidP
  rw [k7]
  refine ⟨?_, ?_, ?_, fun r' x y => ?_, fun h x y => ?_, fun j x y => ?_, ?_, ?_, fun i q x y x2 y2 => ?_, fun i x y => ?_, fun i q x y x2 y2 => ?_⟩
  · simp only [q_up, s_set, Nat.reduceAdd, Nat.reduceEqDiff, false_and, if_false]; omega
  · simp only [q_up, s_set, Nat.reduceAdd, Nat.reduceEqDiff, false_and, if_false]; omega
  · simp only [q_up, s_set, Nat.reduceAdd, Nat.reduceEqDiff, false_and, if_false]; omega
  · have q := kr r' x y
    simp only [q_up, s_set, s_pt, Nat.reduceAdd, Nat.reduceEqDiff, false_and, if_false] at q ⊢
    omega
  · have q := kw h x y
    simp only [q_up, s_set, Nat.reduceAdd, Nat.reduceEqDiff, false_and, if_false] at q ⊢
    omega
  · have q := kj j x y
    simp only [q_up, s_set, Nat.reduceAdd, Nat.reduceEqDiff, false_and, if_false] at q ⊢
    omega
  · simp only [q_up, s_set, Nat.reduceAdd, Nat.reduceEqDiff, false_and, if_false] at kn ⊢; omega
  · simp only [q_up, s_set, Nat.reduceAdd, Nat.reduceEqDiff, true_and, false_and, if_true, if_false]
  · have y : i < φ 3 := by
      simp only [s_set] at y
      omega
    have q := ka i q x y x2 y2
    simp only [q_up, s_set, s_as, Nat.reduceAdd, Nat.reduceEqDiff, true_and, false_and, if_false] at q ⊢
    omega
  · have y : i < φ 3 := by
      simp only [s_set] at y
      omega
    have q := kb i x y
    simp only [q_up, Nat.reduceAdd, Nat.reduceEqDiff, true_and, false_and, if_false] at q ⊢
    omega
  · rw [s_set_eq] at y
    rcases (show i < φ 4 ∨ i = φ 4 by omega) with g | g
    · have q := kc i q x g x2 y2
      simp only [q_up, s_set, s_bd, Nat.reduceAdd, Nat.reduceEqDiff, true_and, false_and, if_false] at q ⊢
      omega
    · subst g
      simp only [q_up, s_set, s_bd, Nat.reduceAdd, Nat.reduceEqDiff, true_and, false_and, if_false]
      rcases (show q = 0 ∨ q = 1 ∨ q = 2 ∨ q = 3 ∨ q = 4 by omega) with rfl | rfl | rfl | rfl | rfl <;> omega
theorem s_offF_add {S : q_S} {c : Nat} {a h u p b : Int} (hc : c = 8 ∨ c = 11) : s_offF S (s_addS S c a h u p b) := by
  unfold s_addS
  repeat (refine s_offF_u ?_ (by omega) (by omega))
  exact s_offF_r
theorem s_offF_cl {S : q_S} {c : Nat} {k : Int} (hc : c = 8 ∨ c = 11) : s_offF S (s_clS S c k) := fun a ha => by
  unfold s_clS
  rw [q_up_ne (by omega), q_cp_ne (by omega)]
theorem s_F_cl8 {S : q_S} {φ : Int → Int} {k : Int} (F : s_F S 1 φ) (k0 : 0 ≤ k) (k1 : k < φ 3) (n1 : φ 3 ≤ 10) (m1 : φ 4 ≤ 10) : s_F (s_clS S 8 k) 1 (s_dpA φ k) := by
  obtain ⟨q0, q6, kt, kr, kw, kj, kn, km, ka, kb, kc⟩ := F
  have k7 : S 8 0 = φ 3 := kn
  have hne : ∀ a, a ≠ 8 → a ≠ 9 → s_clS S 8 k a = S a := fun a h1 h2 => by unfold s_clS; rw [q_up_ne h1, q_cp_ne h2]
  have h9 : s_clS S 8 k 9 = q_cp S 9 9 ((k + 1) * 5) ((k + 1) * 5 - 5) (φ 3 * 5 - (k + 1) * 5) 9 := by unfold s_clS; rw [q_up_ne (by decide), k7]
  unfold s_F
  rw [hne 1 (by decide) (by decide), hne (1 + 1) (by decide) (by decide), hne (1 + 2) (by decide) (by decide), hne (1 + 3) (by decide) (by decide), hne (1 + 4) (by decide) (by decide), hne (1 + 5) (by decide) (by decide), hne (1 + 6) (by decide) (by decide), hne (1 + 10) (by decide) (by decide), hne (1 + 11) (by decide) (by decide), s_dpA_3, s_dpA_lo (show (4 : Int) < 399 + 4 * k by omega) (by decide)]
  refine ⟨?_, ?_, ?_, fun r x y => ?_, fun h x y => ?_, fun j x y => ?_, ?_, km, fun i p x y x2 y2 => ?_, fun i x y => ?_, fun i p x y x2 y2 => ?_⟩
  · rw [s_dpA_lo (by omega) (by omega)]; exact q0
  · rw [s_dpA_lo (by omega) (by omega)]; exact q6
  · rw [s_dpA_lo (by omega) (by omega)]; exact kt
  · have q := kr r x y
    unfold s_pt at q ⊢
    rw [s_dpA_lo (by omega) (by omega), s_dpA_lo (by omega) (by omega), s_dpA_lo (by omega) (by omega), s_dpA_lo (by omega) (by omega)]; exact q
  · rw [s_dpA_lo (by omega) (by omega)]; exact kw h x y
  · rw [s_dpA_lo (by omega) (by omega)]; exact kj j x y
  · show s_clS S 8 k 8 0 = φ 3 - 1
    rw [s_clS_n, k7]
  · show s_clS S 8 k 9 (5 * i + p) = s_as (s_dpA φ k) i p
    rw [h9]
    unfold s_as
    rcases (show i < k ∨ k ≤ i by omega) with g | g
    · rw [q_cp_lo (by omega), s_dpA_lo (by omega) (by omega)]
      exact ka i p x (by omega) x2 y2
    · rw [q_cp_in (by omega) (by omega), s_dpA_in (by omega) (by omega) (by omega), show (k + 1) * 5 + (5 * i + p - ((k + 1) * 5 - 5)) = 5 * (i + 1) + p by omega, show 399 + 4 * i + p + 4 = 399 + 4 * (i + 1) + p by omega]
      exact ka (i + 1) p (by omega) (by omega) x2 y2
  · show s_clS S 8 k 9 (5 * i + 4) = -6
    rw [h9]
    rcases (show i < k ∨ k ≤ i by omega) with g | g
    · rw [q_cp_lo (by omega)]
      exact kb i x (by omega)
    · rw [q_cp_in (by omega) (by omega), show (k + 1) * 5 + (5 * i + 4 - ((k + 1) * 5 - 5)) = 5 * (i + 1) + 4 by omega]
      exact kb (i + 1) (by omega) (by omega)
  · have q := kc i p x y x2 y2
    unfold s_bd at q ⊢
    rw [s_dpA_hi (by omega) (by omega)]
    exact q
theorem s_F_cl11 {S : q_S} {φ : Int → Int} {k : Int} (F : s_F S 1 φ) (k0 : 0 ≤ k) (k1 : k < φ 4) (n1 : φ 3 ≤ 10) (m1 : φ 4 ≤ 10) : s_F (s_clS S 11 k) 1 (s_dpB φ k) := by
  obtain ⟨q0, q6, kt, kr, kw, kj, kn, km, ka, kb, kc⟩ := F
  have k7 : S 11 0 = φ 4 := km
  have hne : ∀ a, a ≠ 11 → a ≠ 12 → s_clS S 11 k a = S a := fun a h1 h2 => by unfold s_clS; rw [q_up_ne h1, q_cp_ne h2]
  have h9 : s_clS S 11 k 12 = q_cp S 12 12 ((k + 1) * 5) ((k + 1) * 5 - 5) (φ 4 * 5 - (k + 1) * 5) 12 := by unfold s_clS; rw [q_up_ne (by decide), k7]
  unfold s_F
  rw [hne 1 (by decide) (by decide), hne (1 + 1) (by decide) (by decide), hne (1 + 2) (by decide) (by decide), hne (1 + 3) (by decide) (by decide), hne (1 + 4) (by decide) (by decide), hne (1 + 5) (by decide) (by decide), hne (1 + 6) (by decide) (by decide), hne (1 + 7) (by decide) (by decide), hne (1 + 8) (by decide) (by decide), s_dpB_4, s_dpB_lo (show (3 : Int) < 439 + 5 * k by omega) (by decide)]
  refine ⟨?_, ?_, ?_, fun r x y => ?_, fun h x y => ?_, fun j x y => ?_, kn, ?_, fun i p x y x2 y2 => ?_, kb, fun i p x y x2 y2 => ?_⟩
  · rw [s_dpB_lo (by omega) (by omega)]; exact q0
  · rw [s_dpB_lo (by omega) (by omega)]; exact q6
  · rw [s_dpB_lo (by omega) (by omega)]; exact kt
  · have q := kr r x y
    unfold s_pt at q ⊢
    rw [s_dpB_lo (by omega) (by omega), s_dpB_lo (by omega) (by omega), s_dpB_lo (by omega) (by omega), s_dpB_lo (by omega) (by omega)]; exact q
  · rw [s_dpB_lo (by omega) (by omega)]; exact kw h x y
  · rw [s_dpB_lo (by omega) (by omega)]; exact kj j x y
  · show s_clS S 11 k 11 0 = φ 4 - 1
    rw [s_clS_n, k7]
  · have q := ka i p x y x2 y2
    unfold s_as at q ⊢
    rw [s_dpB_lo (by omega) (by omega)]
    exact q
  · show s_clS S 11 k 12 (5 * i + p) = s_bd (s_dpB φ k) i p
    rw [h9]
    unfold s_bd
    rcases (show i < k ∨ k ≤ i by omega) with g | g
    · rw [q_cp_lo (by omega), s_dpB_lo (by omega) (by omega)]
      exact kc i p x (by omega) x2 y2
    · rw [q_cp_in (by omega) (by omega), s_dpB_in (by omega) (by omega) (by omega), show (k + 1) * 5 + (5 * i + p - ((k + 1) * 5 - 5)) = 5 * (i + 1) + p by omega, show 439 + 5 * i + p + 5 = 439 + 5 * (i + 1) + p by omega]
      exact kc (i + 1) p (by omega) (by omega) x2 y2
theorem s_F_re8 (n : Nat) : ∀ (S : q_S) (φ : Int → Int), s_F S 1 φ → n ≤ φ 3 → φ 3 ≤ 10 → φ 4 ≤ 10 → s_F (s_reN 8 n S) 1 (s_rmA n φ) := by
  induction n with
  | zero => exact fun S φ F _ _ _ => F
  | succ n ih =>
    intro S φ F h1 h2 h3
    show s_F (s_reN 8 n (if S 9 (5 * n + 2) = 0 then s_clS S 8 n else S)) 1 (s_rmA n (if s_as φ n 2 = 0 then s_dpA φ n else φ))
    have e : S 9 (5 * n + 2) = s_as φ n 2 := s_F_a F (by omega) (by omega) (by decide) (by decide)
    rw [e]
    split
    · exact ih _ _ (s_F_cl8 F (by omega) (by omega) h2 h3) (by rw [s_dpA_3]; omega) (by rw [s_dpA_3]; omega) (by rw [s_dpA_lo (by omega) (by omega)]; exact h3)
    · exact ih _ _ F (by omega) h2 h3
theorem s_F_re11 (n : Nat) : ∀ (S : q_S) (φ : Int → Int), s_F S 1 φ → n ≤ φ 4 → φ 3 ≤ 10 → φ 4 ≤ 10 → s_F (s_reN 11 n S) 1 (s_rmB n φ) := by
  induction n with
  | zero => exact fun S φ F _ _ _ => F
  | succ n ih =>
    intro S φ F h1 h2 h3
    show s_F (s_reN 11 n (if S 12 (5 * n + 2) = 0 then s_clS S 11 n else S)) 1 (s_rmB n (if s_bd φ n 2 = 0 then s_dpB φ n else φ))
    have e : S 12 (5 * n + 2) = s_bd φ n 2 := s_F_b F (by omega) (by omega) (by decide) (by decide)
    rw [e]
    split
    · exact ih _ _ (s_F_cl11 F (by omega) (by omega) h2 h3) (by rw [s_dpB_4]; omega) (by rw [s_dpB_lo (by omega) (by omega)]; exact h2) (by rw [s_dpB_4]; omega)
    · exact ih _ _ F (by omega) h2 h3
theorem s_offF_re {c : Nat} (hc : c = 8 ∨ c = 11) (n : Nat) : ∀ S : q_S, s_offF S (s_reN c n S) := by
  induction n with
  | zero => exact fun S => s_offF_r
  | succ n ih =>
    intro S
    show s_offF S (s_reN c n (if S (c + 1) (5 * n + 2) = 0 then s_clS S c n else S))
    split
    · exact s_offF_t (s_offF_cl hc) (ih _)
    · exact ih _
/-- units of an offer changed -/
theorem s_F_au {S : q_S} {φ : Int → Int} {k u : Int} (F : s_F S 1 φ) (k0 : 0 ≤ k) (k1 : k < 10) (a3 : φ 3 ≤ 10) (a4 : φ 4 ≤ 10) : s_F (q_up S 9 (k * 5 + 2) u) 1 (s_set φ (399 + 4 * k + 2) u) := by
  obtain ⟨q0, q6, kt, kr, kw, kj, kn, km, ka, kb, kc⟩ := F
  unfold s_F
  rw [q_up_ne (show 1 ≠ 9 by decide), q_up_ne (show 1 + 1 ≠ 9 by decide), q_up_ne (show 1 + 2 ≠ 9 by decide), q_up_ne (show 1 + 3 ≠ 9 by decide), q_up_ne (show 1 + 4 ≠ 9 by decide), q_up_ne (show 1 + 5 ≠ 9 by decide), q_up_ne (show 1 + 6 ≠ 9 by decide), q_up_ne (show 1 + 7 ≠ 9 by decide), q_up_ne (show 1 + 10 ≠ 9 by decide), q_up_ne (show 1 + 11 ≠ 9 by decide), s_set_ne (show (0 : Int) ≠ 399 + 4 * k + 2 by omega), s_set_ne (show (1 : Int) ≠ 399 + 4 * k + 2 by omega), s_set_ne (show (2 : Int) ≠ 399 + 4 * k + 2 by omega), s_set_ne (show (3 : Int) ≠ 399 + 4 * k + 2 by omega), s_set_ne (show (4 : Int) ≠ 399 + 4 * k + 2 by omega)]
  refine ⟨q0, q6, kt, fun r x y => ?_, fun h x y => ?_, fun j x y => ?_, kn, km, fun i p x y x2 y2 => ?_, fun i x y => ?_, fun i p x y x2 y2 => ?_⟩
  · have q := kr r x y
    unfold s_pt at q ⊢
    rw [s_set_ne (by omega), s_set_ne (by omega), s_set_ne (by omega), s_set_ne (by omega)]; exact q
  · rw [s_set_ne (by omega)]; exact kw h x y
  · rw [s_set_ne (by omega)]; exact kj j x y
  · have q := ka i p x y x2 y2
    simp only [q_up, s_set, s_as, Nat.reduceAdd, true_and] at q ⊢
    omega
  · have q := kb i x y
    simp only [q_up, Nat.reduceAdd, true_and] at q ⊢
    omega
  · have q := kc i p x y x2 y2
    unfold s_bd at q ⊢
    rw [s_set_ne (by omega)]; exact q
theorem s_F_bu {S : q_S} {φ : Int → Int} {k u : Int} (F : s_F S 1 φ) (k0 : 0 ≤ k) (k1 : k < 10) (a3 : φ 3 ≤ 10) (a4 : φ 4 ≤ 10) : s_F (q_up S 12 (k * 5 + 2) u) 1 (s_set φ (439 + 5 * k + 2) u) := by
  obtain ⟨q0, q6, kt, kr, kw, kj, kn, km, ka, kb, kc⟩ := F
  unfold s_F
  rw [q_up_ne (show 1 ≠ 12 by decide), q_up_ne (show 1 + 1 ≠ 12 by decide), q_up_ne (show 1 + 2 ≠ 12 by decide), q_up_ne (show 1 + 3 ≠ 12 by decide), q_up_ne (show 1 + 4 ≠ 12 by decide), q_up_ne (show 1 + 5 ≠ 12 by decide), q_up_ne (show 1 + 6 ≠ 12 by decide), q_up_ne (show 1 + 7 ≠ 12 by decide), q_up_ne (show 1 + 8 ≠ 12 by decide), q_up_ne (show 1 + 10 ≠ 12 by decide), s_set_ne (show (0 : Int) ≠ 439 + 5 * k + 2 by omega), s_set_ne (show (1 : Int) ≠ 439 + 5 * k + 2 by omega), s_set_ne (show (2 : Int) ≠ 439 + 5 * k + 2 by omega), s_set_ne (show (3 : Int) ≠ 439 + 5 * k + 2 by omega), s_set_ne (show (4 : Int) ≠ 439 + 5 * k + 2 by omega)]
  refine ⟨q0, q6, kt, fun r x y => ?_, fun h x y => ?_, fun j x y => ?_, kn, km, fun i p x y x2 y2 => ?_, kb, fun i p x y x2 y2 => ?_⟩
  · have q := kr r x y
    unfold s_pt at q ⊢
    rw [s_set_ne (by omega), s_set_ne (by omega), s_set_ne (by omega), s_set_ne (by omega)]; exact q
  · rw [s_set_ne (by omega)]; exact kw h x y
  · rw [s_set_ne (by omega)]; exact kj j x y
  · have q := ka i p x y x2 y2
    unfold s_as at q ⊢
    rw [s_set_ne (by omega)]; exact q
  · have q := kc i p x y x2 y2
    simp only [q_up, s_set, s_bd, Nat.reduceAdd, true_and] at q ⊢
    omega
