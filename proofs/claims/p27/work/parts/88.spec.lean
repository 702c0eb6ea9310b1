/-! what is left after the trades: those with units, in their order -/
noncomputable def w_ct (u : Int → Int) (k : Int) : Int := q_sum (fun i => q_B (0 < u i)) k.toNat
theorem w_ct_0 {u : Int → Int} : w_ct u 0 = 0 := rfl
theorem w_ct_t {u : Int → Int} {k : Int} (k0 : 0 ≤ k) (h : 0 < u k) : w_ct u (k + 1) = w_ct u k + 1 := by
  unfold w_ct
  rw [q_sum_s k0]
  exact congrArg (q_sum (fun i => q_B (0 < u i)) k.toNat + ·) (q_B_t h)
theorem w_ct_f {u : Int → Int} {k : Int} (k0 : 0 ≤ k) (h : ¬ 0 < u k) : w_ct u (k + 1) = w_ct u k := by
  unfold w_ct
  rw [q_sum_s k0]
  exact (congrArg (q_sum (fun i => q_B (0 < u i)) k.toNat + ·) (q_B_f h)).trans (Int.add_zero _)
theorem w_ct_s {u : Int → Int} {k : Int} (k0 : 0 ≤ k) : (0 < u k ∧ w_ct u (k + 1) = w_ct u k + 1) ∨ (¬ 0 < u k ∧ w_ct u (k + 1) = w_ct u k) := by
  by_cases h : 0 < u k
  · exact Or.inl ⟨h, w_ct_t k0 h⟩
  · exact Or.inr ⟨h, w_ct_f k0 h⟩
theorem w_ct_bN {u : Int → Int} (n : Nat) : 0 ≤ w_ct u n ∧ w_ct u n ≤ n := by
  induction n with
  | zero => exact ⟨Int.le_refl _, Int.le_refl _⟩
  | succ n ih =>
    rw [show ((n + 1 : Nat) : Int) = (n : Int) + 1 by omega]
    rcases w_ct_s (u := u) (k := n) (by omega) with h | h <;> rw [h.2] <;> omega
theorem w_ct_b {u : Int → Int} {k : Int} (k0 : 0 ≤ k) : 0 ≤ w_ct u k ∧ w_ct u k ≤ k := by
  obtain ⟨n, rfl⟩ : ∃ n : Nat, k = n := ⟨k.toNat, by omega⟩
  exact w_ct_bN n
theorem w_ct_moN {u : Int → Int} {j : Int} (j0 : 0 ≤ j) (n : Nat) : w_ct u j ≤ w_ct u (j + n) := by
  induction n with
  | zero => rw [show j + ((0 : Nat) : Int) = j by omega]; exact Int.le_refl _
  | succ n ih =>
    rw [show j + ((n + 1 : Nat) : Int) = (j + n) + 1 by omega]
    rcases w_ct_s (u := u) (k := j + n) (by omega) with h | h <;> rw [h.2] <;> omega
theorem w_ct_lt {u : Int → Int} {j k : Int} (j0 : 0 ≤ j) (jk : j < k) (h : 0 < u j) : w_ct u j + 1 ≤ w_ct u k := by
  have a := w_ct_t j0 h
  have b := w_ct_moN (u := u) (j := j + 1) (by omega) (k - (j + 1)).toNat
  rw [show j + 1 + ((k - (j + 1)).toNat : Int) = k by omega] at b
  omega
theorem w_ct_cg {u v : Int → Int} {k : Int} (h : ∀ i, 0 ≤ i → i < k → u i = v i) : w_ct u k = w_ct v k := by
  unfold w_ct
  refine q_sum_c (fun i i0 i1 => ?_)
  show q_B (0 < u i) = q_B (0 < v i)
  rw [h i i0 (by omega)]
theorem w_ct_suN {u : Int → Int} {k : Int} (k0 : 0 ≤ k) (n : Nat) (k1 : k < w_ct u n) : ∃ j, 0 ≤ j ∧ j < (n : Int) ∧ 0 < u j ∧ w_ct u j = k := by
  induction n with
  | zero => have : w_ct u ((0 : Nat) : Int) = 0 := rfl; omega
  | succ n ih =>
    rw [show ((n + 1 : Nat) : Int) = (n : Int) + 1 by omega] at k1 ⊢
    by_cases g : k < w_ct u n
    · obtain ⟨j, j0, j1, j2, j3⟩ := ih g
      exact ⟨j, j0, by omega, j2, j3⟩
    · rcases w_ct_s (u := u) (k := n) (by omega) with h | h
      · exact ⟨n, by omega, by omega, h.1, by omega⟩
      · omega
theorem w_ct_su {u : Int → Int} {k m : Int} (m0 : 0 ≤ m) (k0 : 0 ≤ k) (k1 : k < w_ct u m) : ∃ j, 0 ≤ j ∧ j < m ∧ 0 < u j ∧ w_ct u j = k := by
  obtain ⟨n, rfl⟩ : ∃ n : Nat, m = n := ⟨m.toNat, by omega⟩
  exact w_ct_suN k0 n k1
/-- the first k of the law's row gone through -/
def w_cA (S S2 : q_S) (k kept : Int) : Prop := kept = w_ct (fun j => S 154 (4 * j + 2)) k ∧ (∀ j, 0 ≤ j → j < k → 0 < S 154 (4 * j + 2) → ∀ p, 0 ≤ p → p < 4 → S2 154 (4 * w_ct (fun j => S 154 (4 * j + 2)) j + p) = S 154 (4 * j + p)) ∧ (∀ z, 4 * k ≤ z → S2 154 z = S 154 z) ∧ ∀ a : Nat, a ≠ 154 → S2 a = S a
theorem w_cA_0 {S : q_S} : w_cA S S 0 0 := ⟨rfl, fun j j0 j1 => by omega, fun _ _ => rfl, fun _ _ => rfl⟩
theorem w_cA_b {S S2 : q_S} {k kept : Int} (H : w_cA S S2 k kept) (k0 : 0 ≤ k) : 0 ≤ kept ∧ kept ≤ k := by
  rw [H.1]
  exact w_ct_b k0
theorem w_cA_t {S S2 : q_S} {k kept : Int} (H : w_cA S S2 k kept) (k0 : 0 ≤ k) (h : 0 < S 154 (4 * k + 2)) : w_cA S (q_cp S2 154 154 (4 * k) (4 * kept) 4) (k + 1) (kept + 1) := by
  have b := w_cA_b H k0
  refine ⟨by rw [w_ct_t k0 h, H.1], fun j j0 j1 hj p p0 p1 => ?_, fun z hz => ?_, fun a ha => (q_cp_ne ha).trans (H.2.2.2 a ha)⟩
  · rcases (show j < k ∨ j = k by omega) with g | g
    · have l := w_ct_lt (u := (fun j => S 154 (4 * j + 2))) j0 g hj
      rw [← H.1] at l
      rw [q_cp_lo (by omega)]
      exact H.2.1 j j0 g hj p p0 p1
    · subst g
      rw [← H.1, q_cp_in (by omega) (by omega), show 4 * j + (4 * kept + p - 4 * kept) = 4 * j + p by omega]
      exact H.2.2.1 _ (by omega)
  · rw [q_cp_hi (by omega)]
    exact H.2.2.1 z (by omega)
theorem w_cA_f {S S2 : q_S} {k kept : Int} (H : w_cA S S2 k kept) (k0 : 0 ≤ k) (h : ¬ 0 < S 154 (4 * k + 2)) : w_cA S S2 (k + 1) kept := by
  refine ⟨by rw [w_ct_f k0 h]; exact H.1, fun j j0 j1 hj p p0 p1 => ?_, fun z hz => H.2.2.1 z (by omega), H.2.2.2⟩
  rcases (show j < k ∨ j = k by omega) with g | g
  · exact H.2.1 j j0 g hj p p0 p1
  · subst g; exact absurd hj h
theorem w_cA_u {S2 : q_S} {k kept i : Int} (h : kept ≤ k) (i0 : 0 ≤ i) (i1 : i ≤ 4) : q_cp S2 154 154 (4 * k) (4 * kept) i 154 (4 * k + 2) = S2 154 (4 * k + 2) := by
  rcases (show kept < k ∨ kept = k by omega) with g | g
  · exact q_cp_hi (by omega)
  · subst g
    rcases (show i ≤ 2 ∨ 2 < i by omega) with f | f
    · exact q_cp_hi (by omega)
    · rw [q_cp_in (by omega) (by omega)]
      exact congrArg _ (by omega)
theorem w_cA_r {S2 : q_S} {k kept i : Int} (h : kept ≤ k) : q_cp S2 154 154 (4 * k) (4 * kept) i 154 (4 * k + i) = S2 154 (4 * k + i) := q_cp_hi (by omega)
theorem w_rmA (n : Nat) : ∀ χ : Int → Int, (n : Int) ≤ χ 3 → χ 3 ≤ 10 → (∀ j, 0 ≤ j → j < χ 3 → 0 ≤ s_as χ j 2) →
    s_rmA n χ 3 = χ 3 - n + w_ct (fun j => s_as χ j 2) n ∧
    (∀ j : Int, 0 ≤ j → j < n → 0 < s_as χ j 2 → ∀ p, 0 ≤ p → p < 4 → s_rmA n χ (399 + 4 * w_ct (fun j => s_as χ j 2) j + p) = χ (399 + 4 * j + p)) ∧
    (∀ j : Int, n ≤ j → j < χ 3 → ∀ p, 0 ≤ p → p < 4 → s_rmA n χ (399 + 4 * (j - n + w_ct (fun j => s_as χ j 2) n) + p) = χ (399 + 4 * j + p)) ∧
    (∀ z, z ≠ 3 → (z < 399 ∨ 439 ≤ z) → s_rmA n χ z = χ z) := by
  induction n with
  | zero =>
    intro χ h1 h2 h3
    have e0 : w_ct (fun j => s_as χ j 2) ((0 : Nat) : Int) = 0 := rfl
    rw [e0]
    refine ⟨by show χ 3 = _; omega, fun j j0 j1 => by omega, fun j j0 j1 p p0 p1 => ?_, fun z _ _ => rfl⟩
    show χ _ = _
    exact congrArg χ (by omega)
  | succ n ih =>
    intro χ h1 h2 h3
    have en : ((n + 1 : Nat) : Int) = (n : Int) + 1 := by omega
    rw [en] at h1 ⊢
    have hn0 := h3 n (by omega) (by omega)
    by_cases e : s_as χ n 2 = 0
    · have E : s_rmA (n + 1) χ = s_rmA n (s_dpA χ n) := by
        show s_rmA n (if s_as χ n 2 = 0 then s_dpA χ n else χ) = _
        rw [if_pos e]
      have d3 : s_dpA χ n 3 = χ 3 - 1 := s_dpA_3
      have lo : ∀ z : Int, z < 399 + 4 * n → z ≠ 3 → s_dpA χ n z = χ z := fun z z1 z2 => s_dpA_lo z1 z2
      have un : ∀ j : Int, 0 ≤ j → j < (n : Int) → s_as (s_dpA χ n) j 2 = s_as χ j 2 := fun j j0 j1 => lo _ (by omega) (by omega)
      have sh : ∀ j p : Int, (n : Int) ≤ j → j < χ 3 - 1 → 0 ≤ p → p < 4 → s_dpA χ n (399 + 4 * j + p) = χ (399 + 4 * (j + 1) + p) := fun j p j0 j1 p0 p1 => by
        rw [s_dpA_in (by omega) (by omega) (by omega)]
        exact congrArg χ (by omega)
      have ct : ∀ k, k ≤ (n : Int) → w_ct (fun j => s_as (s_dpA χ n) j 2) k = w_ct (fun j => s_as χ j 2) k := fun k k1 => w_ct_cg (fun i i0 i1 => un i i0 (by omega))
      have cn : w_ct (fun j => s_as χ j 2) ((n : Int) + 1) = w_ct (fun j => s_as χ j 2) n := w_ct_f (by omega) (by show ¬ 0 < s_as χ n 2; omega)
      obtain ⟨i1, i2, i3, i4⟩ := ih (s_dpA χ n) (by rw [d3]; omega) (by rw [d3]; omega) (fun j j0 j1 => by
        rw [d3] at j1
        rcases (show j < (n : Int) ∨ (n : Int) ≤ j by omega) with g | g
        · rw [un j j0 g]; exact h3 j j0 (by omega)
        · have q := sh j 2 g j1 (by decide) (by decide)
          have r := h3 (j + 1) (by omega) (by omega)
          show 0 ≤ s_dpA χ n (399 + 4 * j + 2)
          rw [q]; exact r)
      rw [E, cn]
      rw [ct n (Int.le_refl _)] at i1 i3
      refine ⟨by rw [i1, d3]; omega, fun j j0 j1 hj p p0 p1 => ?_, fun j j0 j1 p p0 p1 => ?_, fun z z1 z2 => ?_⟩
      · have jn : j < (n : Int) := by
          rcases (show j < (n : Int) ∨ j = n by omega) with g | g
          · exact g
          · subst g; omega
        have q := i2 j j0 jn (by rw [un j j0 jn]; exact hj) p p0 p1
        rw [ct j (by omega)] at q
        rw [q]
        exact lo _ (by omega) (by omega)
      · have q := i3 (j - 1) (by omega) (by rw [d3]; omega) p p0 p1
        rw [show j - 1 - (n : Int) + w_ct (fun j => s_as χ j 2) n = j - ((n : Int) + 1) + w_ct (fun j => s_as χ j 2) n by omega] at q
        rw [q, sh (j - 1) p (by omega) (by omega) p0 p1, show j - 1 + 1 = j by omega]
      · rw [i4 z z1 z2]
        rcases z2 with g | g
        · exact lo _ (by omega) z1
        · exact s_dpA_hi (by omega) z1
    · have E : s_rmA (n + 1) χ = s_rmA n χ := by
        show s_rmA n (if s_as χ n 2 = 0 then s_dpA χ n else χ) = _
        rw [if_neg e]
      have cn : w_ct (fun j => s_as χ j 2) ((n : Int) + 1) = w_ct (fun j => s_as χ j 2) n + 1 := w_ct_t (by omega) (by show 0 < s_as χ n 2; omega)
      obtain ⟨i1, i2, i3, i4⟩ := ih χ (by omega) h2 h3
      rw [E, cn]
      refine ⟨by rw [i1]; omega, fun j j0 j1 hj p p0 p1 => ?_, fun j j0 j1 p p0 p1 => ?_, i4⟩
      · rcases (show j < (n : Int) ∨ j = n by omega) with g | g
        · exact i2 j j0 g hj p p0 p1
        · subst g
          have q := i3 n (Int.le_refl _) (by omega) p p0 p1
          rw [show (n : Int) - n + w_ct (fun j => s_as χ j 2) n = w_ct (fun j => s_as χ j 2) n by omega] at q
          exact q
      · have q := i3 j (by omega) j1 p p0 p1
        rw [show j - (n : Int) + w_ct (fun j => s_as χ j 2) n = j - ((n : Int) + 1) + (w_ct (fun j => s_as χ j 2) n + 1) by omega] at q
        exact q
/-- the first k of the law's row gone through -/
def w_cB (S S2 : q_S) (k kept : Int) : Prop := kept = w_ct (fun j => S 155 (5 * j + 2)) k ∧ (∀ j, 0 ≤ j → j < k → 0 < S 155 (5 * j + 2) → ∀ p, 0 ≤ p → p < 5 → S2 155 (5 * w_ct (fun j => S 155 (5 * j + 2)) j + p) = S 155 (5 * j + p)) ∧ (∀ z, 5 * k ≤ z → S2 155 z = S 155 z) ∧ ∀ a : Nat, a ≠ 155 → S2 a = S a
theorem w_cB_0 {S : q_S} : w_cB S S 0 0 := ⟨rfl, fun j j0 j1 => by omega, fun _ _ => rfl, fun _ _ => rfl⟩
theorem w_cB_b {S S2 : q_S} {k kept : Int} (H : w_cB S S2 k kept) (k0 : 0 ≤ k) : 0 ≤ kept ∧ kept ≤ k := by
  rw [H.1]
  exact w_ct_b k0
theorem w_cB_t {S S2 : q_S} {k kept : Int} (H : w_cB S S2 k kept) (k0 : 0 ≤ k) (h : 0 < S 155 (5 * k + 2)) : w_cB S (q_cp S2 155 155 (5 * k) (5 * kept) 5) (k + 1) (kept + 1) := by
  have b := w_cB_b H k0
  refine ⟨by rw [w_ct_t k0 h, H.1], fun j j0 j1 hj p p0 p1 => ?_, fun z hz => ?_, fun a ha => (q_cp_ne ha).trans (H.2.2.2 a ha)⟩
  · rcases (show j < k ∨ j = k by omega) with g | g
    · have l := w_ct_lt (u := (fun j => S 155 (5 * j + 2))) j0 g hj
      rw [← H.1] at l
      rw [q_cp_lo (by omega)]
      exact H.2.1 j j0 g hj p p0 p1
    · subst g
      rw [← H.1, q_cp_in (by omega) (by omega), show 5 * j + (5 * kept + p - 5 * kept) = 5 * j + p by omega]
      exact H.2.2.1 _ (by omega)
  · rw [q_cp_hi (by omega)]
    exact H.2.2.1 z (by omega)
theorem w_cB_f {S S2 : q_S} {k kept : Int} (H : w_cB S S2 k kept) (k0 : 0 ≤ k) (h : ¬ 0 < S 155 (5 * k + 2)) : w_cB S S2 (k + 1) kept := by
  refine ⟨by rw [w_ct_f k0 h]; exact H.1, fun j j0 j1 hj p p0 p1 => ?_, fun z hz => H.2.2.1 z (by omega), H.2.2.2⟩
  rcases (show j < k ∨ j = k by omega) with g | g
  · exact H.2.1 j j0 g hj p p0 p1
  · subst g; exact absurd hj h
theorem w_cB_u {S2 : q_S} {k kept i : Int} (h : kept ≤ k) (i0 : 0 ≤ i) (i1 : i ≤ 5) : q_cp S2 155 155 (5 * k) (5 * kept) i 155 (5 * k + 2) = S2 155 (5 * k + 2) := by
  rcases (show kept < k ∨ kept = k by omega) with g | g
  · exact q_cp_hi (by omega)
  · subst g
    rcases (show i ≤ 2 ∨ 2 < i by omega) with f | f
    · exact q_cp_hi (by omega)
    · rw [q_cp_in (by omega) (by omega)]
      exact congrArg _ (by omega)
theorem w_cB_r {S2 : q_S} {k kept i : Int} (h : kept ≤ k) : q_cp S2 155 155 (5 * k) (5 * kept) i 155 (5 * k + i) = S2 155 (5 * k + i) := q_cp_hi (by omega)
theorem w_rmB (n : Nat) : ∀ χ : Int → Int, (n : Int) ≤ χ 4 → χ 4 ≤ 10 → (∀ j, 0 ≤ j → j < χ 4 → 0 ≤ s_bd χ j 2) →
    s_rmB n χ 4 = χ 4 - n + w_ct (fun j => s_bd χ j 2) n ∧
    (∀ j : Int, 0 ≤ j → j < n → 0 < s_bd χ j 2 → ∀ p, 0 ≤ p → p < 5 → s_rmB n χ (439 + 5 * w_ct (fun j => s_bd χ j 2) j + p) = χ (439 + 5 * j + p)) ∧
    (∀ j : Int, n ≤ j → j < χ 4 → ∀ p, 0 ≤ p → p < 5 → s_rmB n χ (439 + 5 * (j - n + w_ct (fun j => s_bd χ j 2) n) + p) = χ (439 + 5 * j + p)) ∧
    (∀ z, z ≠ 4 → (z < 439 ∨ 489 ≤ z) → s_rmB n χ z = χ z) := by
  induction n with
  | zero =>
    intro χ h1 h2 h3
    have e0 : w_ct (fun j => s_bd χ j 2) ((0 : Nat) : Int) = 0 := rfl
    rw [e0]
    refine ⟨by show χ 4 = _; omega, fun j j0 j1 => by omega, fun j j0 j1 p p0 p1 => ?_, fun z _ _ => rfl⟩
    show χ _ = _
    exact congrArg χ (by omega)
  | succ n ih =>
    intro χ h1 h2 h3
    have en : ((n + 1 : Nat) : Int) = (n : Int) + 1 := by omega
    rw [en] at h1 ⊢
    have hn0 := h3 n (by omega) (by omega)
    by_cases e : s_bd χ n 2 = 0
    · have E : s_rmB (n + 1) χ = s_rmB n (s_dpB χ n) := by
        show s_rmB n (if s_bd χ n 2 = 0 then s_dpB χ n else χ) = _
        rw [if_pos e]
      have d3 : s_dpB χ n 4 = χ 4 - 1 := s_dpB_4
      have lo : ∀ z : Int, z < 439 + 5 * n → z ≠ 4 → s_dpB χ n z = χ z := fun z z1 z2 => s_dpB_lo z1 z2
      have un : ∀ j : Int, 0 ≤ j → j < (n : Int) → s_bd (s_dpB χ n) j 2 = s_bd χ j 2 := fun j j0 j1 => lo _ (by omega) (by omega)
      have sh : ∀ j p : Int, (n : Int) ≤ j → j < χ 4 - 1 → 0 ≤ p → p < 5 → s_dpB χ n (439 + 5 * j + p) = χ (439 + 5 * (j + 1) + p) := fun j p j0 j1 p0 p1 => by
        rw [s_dpB_in (by omega) (by omega) (by omega)]
        exact congrArg χ (by omega)
      have ct : ∀ k, k ≤ (n : Int) → w_ct (fun j => s_bd (s_dpB χ n) j 2) k = w_ct (fun j => s_bd χ j 2) k := fun k k1 => w_ct_cg (fun i i0 i1 => un i i0 (by omega))
      have cn : w_ct (fun j => s_bd χ j 2) ((n : Int) + 1) = w_ct (fun j => s_bd χ j 2) n := w_ct_f (by omega) (by show ¬ 0 < s_bd χ n 2; omega)
      obtain ⟨i1, i2, i3, i4⟩ := ih (s_dpB χ n) (by rw [d3]; omega) (by rw [d3]; omega) (fun j j0 j1 => by
        rw [d3] at j1
        rcases (show j < (n : Int) ∨ (n : Int) ≤ j by omega) with g | g
        · rw [un j j0 g]; exact h3 j j0 (by omega)
        · have q := sh j 2 g j1 (by decide) (by decide)
          have r := h3 (j + 1) (by omega) (by omega)
          show 0 ≤ s_dpB χ n (439 + 5 * j + 2)
          rw [q]; exact r)
      rw [E, cn]
      rw [ct n (Int.le_refl _)] at i1 i3
      refine ⟨by rw [i1, d3]; omega, fun j j0 j1 hj p p0 p1 => ?_, fun j j0 j1 p p0 p1 => ?_, fun z z1 z2 => ?_⟩
      · have jn : j < (n : Int) := by
          rcases (show j < (n : Int) ∨ j = n by omega) with g | g
          · exact g
          · subst g; omega
        have q := i2 j j0 jn (by rw [un j j0 jn]; exact hj) p p0 p1
        rw [ct j (by omega)] at q
        rw [q]
        exact lo _ (by omega) (by omega)
      · have q := i3 (j - 1) (by omega) (by rw [d3]; omega) p p0 p1
        rw [show j - 1 - (n : Int) + w_ct (fun j => s_bd χ j 2) n = j - ((n : Int) + 1) + w_ct (fun j => s_bd χ j 2) n by omega] at q
        rw [q, sh (j - 1) p (by omega) (by omega) p0 p1, show j - 1 + 1 = j by omega]
      · rw [i4 z z1 z2]
        rcases z2 with g | g
        · exact lo _ (by omega) z1
        · exact s_dpB_hi (by omega) z1
    · have E : s_rmB (n + 1) χ = s_rmB n χ := by
        show s_rmB n (if s_bd χ n 2 = 0 then s_dpB χ n else χ) = _
        rw [if_neg e]
      have cn : w_ct (fun j => s_bd χ j 2) ((n : Int) + 1) = w_ct (fun j => s_bd χ j 2) n + 1 := w_ct_t (by omega) (by show 0 < s_bd χ n 2; omega)
      obtain ⟨i1, i2, i3, i4⟩ := ih χ (by omega) h2 h3
      rw [E, cn]
      refine ⟨by rw [i1]; omega, fun j j0 j1 hj p p0 p1 => ?_, fun j j0 j1 p p0 p1 => ?_, i4⟩
      · rcases (show j < (n : Int) ∨ j = n by omega) with g | g
        · exact i2 j j0 g hj p p0 p1
        · subst g
          have q := i3 n (Int.le_refl _) (by omega) p p0 p1
          rw [show (n : Int) - n + w_ct (fun j => s_bd χ j 2) n = w_ct (fun j => s_bd χ j 2) n by omega] at q
          exact q
      · have q := i3 j (by omega) j1 p p0 p1
        rw [show j - (n : Int) + w_ct (fun j => s_bd χ j 2) n = j - ((n : Int) + 1) + (w_ct (fun j => s_bd χ j 2) n + 1) by omega] at q
        exact q
