/-! matches: every bid in its place among the bids, then what is left over -/
theorem s_tbL_k {b : Int} (b0 : 0 ≤ b) (b1 : b < 10) (n : Nat) : ∀ x : (Int → Int) × Int × Int, s_ok x.1 → 0 ≤ x.2.1 → x.2.1 ≤ 999 → s_ok (s_tbL b n x).1 ∧ 0 ≤ (s_tbL b n x).2.1 ∧ (s_tbL b n x).2.1 ≤ 999 ∧ ∀ z, z < 15 → (s_tbL b n x).1 z = x.1 z := by
  induction n with
  | zero => exact fun x ok h0 h1 => ⟨ok, h0, h1, fun _ _ => rfl⟩
  | succ n ih =>
    intro x ok h0 h1
    by_cases h : s_na x.1 b ≠ -6 ∧ 0 < x.2.1 ∧ 0 < s_bd x.1 b 2
    · have hn : 0 ≤ s_na x.1 b ∧ s_na x.1 b < x.1 3 ∧ s_suit x.1 b (s_na x.1 b) := (s_na_b ok b).resolve_left h.1
      have h3 := ok.2.2.1
      have ha := s_as_b ok hn.1 (by omega)
      have hb := s_bd_b ok b0 b1
      have hu : 0 ≤ s_tu x b ∧ s_tu x b ≤ s_as x.1 (s_na x.1 b) 2 ∧ s_tu x b ≤ s_bd x.1 b 2 ∧ s_tu x b ≤ x.2.1 := by unfold s_tu; omega
      rw [s_tbL_t h]
      have h4 := ih (s_trd x.1 (s_na x.1 b) b (s_tu x b), x.2.1 - s_tu x b, x.2.2 + s_tu x b) (s_ok_trd ok hn.1 (by omega) b0 b1 hu.1 hu.2.1 hu.2.2.1) (by show 0 ≤ x.2.1 - s_tu x b; omega) (by show x.2.1 - s_tu x b ≤ 999; omega)
      refine ⟨h4.1, h4.2.1, h4.2.2.1, fun z hz => (h4.2.2.2 z hz).trans ?_⟩
      exact s_trd_ne (by omega) (by omega) (by omega) (by omega)
    · rw [s_tbL_f h]
      exact ⟨ok, h0, h1, fun _ _ => rfl⟩
theorem s_tbP_k {φ : Int → Int} (ok : s_ok φ) {b : Int} (b0 : 0 ≤ b) (b1 : b < 10) : s_ok (s_tbP φ b) ∧ ∀ z, z < 15 → s_tbP φ b z = φ z := by
  have hb := s_bd_b ok b0 b1
  have hr := s_rt_b ok (a := s_bd φ b 4) (b := s_bd φ b 0) (h := s_bd φ b 1) (by omega) (by omega) (by omega) (by omega) (by omega) (by omega)
  have h := s_tbL_k b0 b1 201 (φ, 999 - s_rt φ (s_bd φ b 4) (s_bd φ b 0) (s_bd φ b 1), 0) ok (by show 0 ≤ 999 - s_rt φ _ _ _; omega) (by show 999 - s_rt φ _ _ _ ≤ 999; omega)
  refine ⟨s_ok_rt h.1 (by omega) (by omega) (by omega) (by omega) (by omega) (by omega) (by have := h.2.2.1; show 0 ≤ 999 - (s_tbX φ b).2.1; exact Int.sub_nonneg.mpr this) (by have := h.2.1; show 999 - (s_tbX φ b).2.1 ≤ 999; have q : 0 ≤ (s_tbX φ b).2.1 := this; omega), fun z hz => ?_⟩
  unfold s_tbP
  rw [s_set_ne (by omega)]
  exact h.2.2.2 z hz
theorem s_pob_b {φ : Int → Int} (ok : s_ok φ) (i : Int) : 0 ≤ s_pob φ i ∧ s_pob φ i ≤ 10 := by
  have h4 := ok.2.2.2.1
  have h := q_sum_b (f := fun k => q_B (s_bd φ i 3 < s_bd φ k 3 ∨ (s_bd φ k 3 = s_bd φ i 3 ∧ k < i))) (A := 1) (n := (φ 4).toNat) (fun k _ _ => by rcases q_B_or (s_bd φ i 3 < s_bd φ k 3 ∨ (s_bd φ k 3 = s_bd φ i 3 ∧ k < i)) with q | q <;> (show 0 ≤ q_B _ ∧ q_B _ ≤ 1) <;> omega)
  have h2 : 0 ≤ s_pob φ i ∧ s_pob φ i ≤ 1 * ((φ 4).toNat : Int) := h
  omega
/-- the bids before n in the place p, served -/
noncomputable def s_mtI (p : Int) (x : (Int → Int) × Int) : Nat → (Int → Int) × Int
  | 0 => x
  | n + 1 => @ite _ (s_pob (s_mtI p x n).1 n = p) (Classical.propDecidable _) (s_tbP (s_mtI p x n).1 n, (s_mtI p x n).2 + s_tbV (s_mtI p x n).1 n) (s_mtI p x n)
theorem s_mtI_t {p : Int} {x : (Int → Int) × Int} {k : Int} (h0 : 0 ≤ k) (h : s_pob (s_mtI p x k.toNat).1 k = p) : s_mtI p x (k + 1).toNat = (s_tbP (s_mtI p x k.toNat).1 k, (s_mtI p x k.toNat).2 + s_tbV (s_mtI p x k.toNat).1 k) := by
  obtain ⟨n, rfl⟩ : ∃ n : Nat, k = n := ⟨k.toNat, by omega⟩
  rw [Int.toNat_natCast] at h
  rw [show ((n : Int) + 1).toNat = n + 1 by omega, Int.toNat_natCast]
  exact if_pos h
theorem s_mtI_f {p : Int} {x : (Int → Int) × Int} {k : Int} (h0 : 0 ≤ k) (h : ¬ s_pob (s_mtI p x k.toNat).1 k = p) : s_mtI p x (k + 1).toNat = s_mtI p x k.toNat := by
  obtain ⟨n, rfl⟩ : ∃ n : Nat, k = n := ⟨k.toNat, by omega⟩
  rw [Int.toNat_natCast] at h
  rw [show ((n : Int) + 1).toNat = n + 1 by omega, Int.toNat_natCast]
  exact if_neg h
/-- the bids in the places before n, served -/
noncomputable def s_mtP (x : (Int → Int) × Int) : Nat → (Int → Int) × Int
  | 0 => x
  | n + 1 => s_mtI n (s_mtP x n) (x.1 4).toNat
theorem s_mtP_s {x : (Int → Int) × Int} {k : Int} (h0 : 0 ≤ k) : s_mtP x (k + 1).toNat = s_mtI k (s_mtP x k.toNat) (x.1 4).toNat := by
  obtain ⟨n, rfl⟩ : ∃ n : Nat, k = n := ⟨k.toNat, by omega⟩
  rw [show ((n : Int) + 1).toNat = n + 1 by omega, Int.toNat_natCast]
  rfl
/-! an ask or a bid goes -/
def s_dpA (φ : Int → Int) (n : Int) : Int → Int := fun z => if z = 3 then φ 3 - 1 else if 399 + 4 * n ≤ z ∧ z < 399 + 4 * (φ 3 - 1) then φ (z + 4) else φ z
def s_dpB (φ : Int → Int) (n : Int) : Int → Int := fun z => if z = 4 then φ 4 - 1 else if 439 + 5 * n ≤ z ∧ z < 439 + 5 * (φ 4 - 1) then φ (z + 5) else φ z
theorem s_dropA_w {S : q_S} {n : Int} : s_dropA S n = q_w1 S (s_dpA (S 151) n) := by
  funext a z
  unfold s_dropA q_up q_cp q_w1 s_dpA
  by_cases e : a = 151
  · subst e
    by_cases e2 : z = 3
    · simp [e2]
    · simp only [e2, and_false, if_false, if_true]
      by_cases e3 : 399 + 4 * n ≤ z ∧ z < 399 + 4 * (S 151 3 - 1)
      · rw [if_pos ⟨trivial, e3.1, by omega⟩, if_pos e3, show 403 + 4 * n + (z - (399 + 4 * n)) = z + 4 by omega]
      · rw [if_neg (by omega), if_neg e3]
  · simp [e]
theorem s_dropB_w {S : q_S} {n : Int} : s_dropB S n = q_w1 S (s_dpB (S 151) n) := by
  funext a z
  unfold s_dropB q_up q_cp q_w1 s_dpB
  by_cases e : a = 151
  · subst e
    by_cases e2 : z = 4
    · simp [e2]
    · simp only [e2, and_false, if_false, if_true]
      by_cases e3 : 439 + 5 * n ≤ z ∧ z < 439 + 5 * (S 151 4 - 1)
      · rw [if_pos ⟨trivial, e3.1, by omega⟩, if_pos e3, show 444 + 5 * n + (z - (439 + 5 * n)) = z + 5 by omega]
      · rw [if_neg (by omega), if_neg e3]
  · simp [e]
theorem s_dpA_lo {φ : Int → Int} {n z : Int} (h : z < 399 + 4 * n) (h2 : z ≠ 3) : s_dpA φ n z = φ z := by
  unfold s_dpA
  rw [if_neg h2, if_neg (by omega)]
theorem s_dpA_hi {φ : Int → Int} {n z : Int} (h : 399 + 4 * (φ 3 - 1) ≤ z) (h2 : z ≠ 3) : s_dpA φ n z = φ z := by
  unfold s_dpA
  rw [if_neg h2, if_neg (by omega)]
theorem s_dpA_in {φ : Int → Int} {n z : Int} (h : 399 + 4 * n ≤ z) (h1 : z < 399 + 4 * (φ 3 - 1)) (h2 : z ≠ 3) : s_dpA φ n z = φ (z + 4) := by
  unfold s_dpA
  rw [if_neg h2, if_pos ⟨h, h1⟩]
theorem s_dpA_3 {φ : Int → Int} {n : Int} : s_dpA φ n 3 = φ 3 - 1 := if_pos rfl
theorem s_dpB_lo {φ : Int → Int} {n z : Int} (h : z < 439 + 5 * n) (h2 : z ≠ 4) : s_dpB φ n z = φ z := by
  unfold s_dpB
  rw [if_neg h2, if_neg (by omega)]
theorem s_dpB_hi {φ : Int → Int} {n z : Int} (h : 439 + 5 * (φ 4 - 1) ≤ z) (h2 : z ≠ 4) : s_dpB φ n z = φ z := by
  unfold s_dpB
  rw [if_neg h2, if_neg (by omega)]
theorem s_dpB_in {φ : Int → Int} {n z : Int} (h : 439 + 5 * n ≤ z) (h1 : z < 439 + 5 * (φ 4 - 1)) (h2 : z ≠ 4) : s_dpB φ n z = φ (z + 5) := by
  unfold s_dpB
  rw [if_neg h2, if_pos ⟨h, h1⟩]
theorem s_dpB_4 {φ : Int → Int} {n : Int} : s_dpB φ n 4 = φ 4 - 1 := if_pos rfl
theorem s_ok_dpA {φ : Int → Int} (ok : s_ok φ) {n : Int} (n0 : 0 ≤ n) (n1 : n < φ 3) : s_ok (s_dpA φ n) := by
  rw [s_ok_iff] at ok ⊢
  obtain ⟨k1, k2, k3, k4, k5, k6, k7, k8, k9⟩ := ok
  refine ⟨?_, ?_, ?_, ?_, fun h' x y => ?_, fun r x y => ?_, fun a' b' h' x1 x2 x3 x4 x5 x6 => ?_, fun i x y => ?_, fun i x y => ?_⟩
  · rw [s_dpA_lo (by omega) (by omega)]; exact k1
  · rw [s_dpA_lo (by omega) (by omega)]; exact k2
  · rw [s_dpA_3]; omega
  · rw [s_dpA_lo (by omega) (by omega)]; exact k4
  · rw [s_dpA_lo (by omega) (by omega)]; exact k5 h' x y
  · rw [s_dpA_lo (by omega) (by omega), s_dpA_lo (by omega) (by omega), s_dpA_lo (by omega) (by omega)]; exact k6 r x y
  · rw [s_dpA_lo (by omega) (by omega)]; exact k7 a' b' h' x1 x2 x3 x4 x5 x6
  · by_cases h : n ≤ i ∧ i < φ 3 - 1
    · rw [s_dpA_in (by omega) (by omega) (by omega), s_dpA_in (by omega) (by omega) (by omega), s_dpA_in (by omega) (by omega) (by omega), s_dpA_in (by omega) (by omega) (by omega)]
      have q := k8 (i + 1) (by omega) (by omega)
      rw [show 399 + 4 * (i + 1) + 0 = 399 + 4 * i + 0 + 4 by omega, show 399 + 4 * (i + 1) + 1 = 399 + 4 * i + 1 + 4 by omega, show 399 + 4 * (i + 1) + 2 = 399 + 4 * i + 2 + 4 by omega, show 399 + 4 * (i + 1) + 3 = 399 + 4 * i + 3 + 4 by omega] at q
      exact q
    · rcases (show i < n ∨ φ 3 - 1 ≤ i by omega) with h | h
      · rw [s_dpA_lo (by omega) (by omega), s_dpA_lo (by omega) (by omega), s_dpA_lo (by omega) (by omega), s_dpA_lo (by omega) (by omega)]; exact k8 i x y
      · rw [s_dpA_hi (by omega) (by omega), s_dpA_hi (by omega) (by omega), s_dpA_hi (by omega) (by omega), s_dpA_hi (by omega) (by omega)]; exact k8 i x y
  · rw [s_dpA_hi (by omega) (by omega), s_dpA_hi (by omega) (by omega), s_dpA_hi (by omega) (by omega), s_dpA_hi (by omega) (by omega), s_dpA_hi (by omega) (by omega)]; exact k9 i x y
theorem s_ok_dpB {φ : Int → Int} (ok : s_ok φ) {n : Int} (n0 : 0 ≤ n) (n1 : n < φ 4) : s_ok (s_dpB φ n) := by
  rw [s_ok_iff] at ok ⊢
  obtain ⟨k1, k2, k3, k4, k5, k6, k7, k8, k9⟩ := ok
  refine ⟨?_, ?_, ?_, ?_, fun h' x y => ?_, fun r x y => ?_, fun a' b' h' x1 x2 x3 x4 x5 x6 => ?_, fun i x y => ?_, fun i x y => ?_⟩
  · rw [s_dpB_lo (by omega) (by omega)]; exact k1
  · rw [s_dpB_lo (by omega) (by omega)]; exact k2
  · rw [s_dpB_lo (by omega) (by omega)]; exact k3
  · rw [s_dpB_4]; omega
  · rw [s_dpB_lo (by omega) (by omega)]; exact k5 h' x y
  · rw [s_dpB_lo (by omega) (by omega), s_dpB_lo (by omega) (by omega), s_dpB_lo (by omega) (by omega)]; exact k6 r x y
  · rw [s_dpB_lo (by omega) (by omega)]; exact k7 a' b' h' x1 x2 x3 x4 x5 x6
  · rw [s_dpB_lo (by omega) (by omega), s_dpB_lo (by omega) (by omega), s_dpB_lo (by omega) (by omega), s_dpB_lo (by omega) (by omega)]; exact k8 i x y
  · by_cases h : n ≤ i ∧ i < φ 4 - 1
    · rw [s_dpB_in (by omega) (by omega) (by omega), s_dpB_in (by omega) (by omega) (by omega), s_dpB_in (by omega) (by omega) (by omega), s_dpB_in (by omega) (by omega) (by omega), s_dpB_in (by omega) (by omega) (by omega)]
      have q := k9 (i + 1) (by omega) (by omega)
      rw [show 439 + 5 * (i + 1) + 0 = 439 + 5 * i + 0 + 5 by omega, show 439 + 5 * (i + 1) + 1 = 439 + 5 * i + 1 + 5 by omega, show 439 + 5 * (i + 1) + 2 = 439 + 5 * i + 2 + 5 by omega, show 439 + 5 * (i + 1) + 3 = 439 + 5 * i + 3 + 5 by omega, show 439 + 5 * (i + 1) + 4 = 439 + 5 * i + 4 + 5 by omega] at q
      exact q
    · rcases (show i < n ∨ φ 4 - 1 ≤ i by omega) with h | h
      · rw [s_dpB_lo (by omega) (by omega), s_dpB_lo (by omega) (by omega), s_dpB_lo (by omega) (by omega), s_dpB_lo (by omega) (by omega), s_dpB_lo (by omega) (by omega)]; exact k9 i x y
      · rw [s_dpB_hi (by omega) (by omega), s_dpB_hi (by omega) (by omega), s_dpB_hi (by omega) (by omega), s_dpB_hi (by omega) (by omega), s_dpB_hi (by omega) (by omega)]; exact k9 i x y
def s_rmA : Nat → (Int → Int) → Int → Int
  | 0, φ => φ
  | n + 1, φ => s_rmA n (if s_as φ n 2 = 0 then s_dpA φ n else φ)
def s_rmB : Nat → (Int → Int) → Int → Int
  | 0, φ => φ
  | n + 1, φ => s_rmB n (if s_bd φ n 2 = 0 then s_dpB φ n else φ)
theorem s_rmA_t {φ : Int → Int} {k : Int} (h0 : 0 ≤ k) (h : s_as φ k 2 = 0) : s_rmA (k + 1).toNat φ = s_rmA k.toNat (s_dpA φ k) := by
  obtain ⟨n, rfl⟩ : ∃ n : Nat, k = n := ⟨k.toNat, by omega⟩
  rw [show ((n : Int) + 1).toNat = n + 1 by omega, Int.toNat_natCast]
  show s_rmA n (if s_as φ n 2 = 0 then s_dpA φ n else φ) = _
  rw [if_pos h]
theorem s_rmA_f {φ : Int → Int} {k : Int} (h0 : 0 ≤ k) (h : ¬ s_as φ k 2 = 0) : s_rmA (k + 1).toNat φ = s_rmA k.toNat φ := by
  obtain ⟨n, rfl⟩ : ∃ n : Nat, k = n := ⟨k.toNat, by omega⟩
  rw [show ((n : Int) + 1).toNat = n + 1 by omega, Int.toNat_natCast]
  show s_rmA n (if s_as φ n 2 = 0 then s_dpA φ n else φ) = _
  rw [if_neg h]
theorem s_rmB_t {φ : Int → Int} {k : Int} (h0 : 0 ≤ k) (h : s_bd φ k 2 = 0) : s_rmB (k + 1).toNat φ = s_rmB k.toNat (s_dpB φ k) := by
  obtain ⟨n, rfl⟩ : ∃ n : Nat, k = n := ⟨k.toNat, by omega⟩
  rw [show ((n : Int) + 1).toNat = n + 1 by omega, Int.toNat_natCast]
  show s_rmB n (if s_bd φ n 2 = 0 then s_dpB φ n else φ) = _
  rw [if_pos h]
theorem s_rmB_f {φ : Int → Int} {k : Int} (h0 : 0 ≤ k) (h : ¬ s_bd φ k 2 = 0) : s_rmB (k + 1).toNat φ = s_rmB k.toNat φ := by
  obtain ⟨n, rfl⟩ : ∃ n : Nat, k = n := ⟨k.toNat, by omega⟩
  rw [show ((n : Int) + 1).toNat = n + 1 by omega, Int.toNat_natCast]
  show s_rmB n (if s_bd φ n 2 = 0 then s_dpB φ n else φ) = _
  rw [if_neg h]
noncomputable def s_matB (φ : Int → Int) : Int → Int := s_rmB (φ 4).toNat (s_mtP (φ, 0) (φ 4).toNat).1
noncomputable def s_matA (φ : Int → Int) : Int → Int := s_rmA (s_matB φ 3).toNat (s_matB φ)
noncomputable def s_matV (φ : Int → Int) : Int := (s_mtP (φ, 0) (φ 4).toNat).2
noncomputable def s_matP (φ : Int → Int) : Int → Int := s_aw (s_matA φ) 2 (s_matV φ)
theorem s_off_w {S S2 : q_S} {φ : Int → Int} (h : s_off S S2 (fun a => a = 151)) : s_off S (q_w1 S2 φ) (fun a => a = 151) := fun a ha => by
  rw [q_w1_n ha]
  exact h a ha
