/-! trades -/
def s_wr (z : Int) : Int := (Int32.ofInt z).toInt
theorem s_wr_rg (z : Int) : q_rg (s_wr z) := q_rgt _
theorem s_wr_id {z : Int} (h : q_rg z) : s_wr z = z := q_ti h
theorem p_wr {Γ : q_G} {M : q_M} {d bc bs pc : Nat} {L : List (Nat × Value)} {st : List Value} {w : q_W} {Q : Option Value → q_W → Prop} {z : Int} (k : q_rg (s_wr z) → q_Go Γ M d bc bs pc L (q_i (s_wr z) :: st) w Q) : q_Go Γ M d bc bs pc L (q_i z :: st) w Q := by
  have e : q_i (s_wr z) = q_i z := by unfold q_i s_wr; rw [q_ot]
  rw [← e]
  exact k (s_wr_rg z)
def s_aw (φ : Int → Int) (j v : Int) : Int → Int := s_set φ j (s_wr (φ j + v))
theorem s_aw_ne {φ : Int → Int} {j v z : Int} (h : z ≠ j) : s_aw φ j v z = φ z := if_neg h
theorem s_aw_eq {φ : Int → Int} {j v : Int} : s_aw φ j v j = s_wr (φ j + v) := if_pos rfl
def q_w1 (S : q_S) (φ : Int → Int) : q_S := fun a => if a = 151 then φ else S a
theorem q_w1_s {S : q_S} {φ : Int → Int} : q_w1 S φ 151 = φ := if_pos rfl
theorem q_w1_n {S : q_S} {φ : Int → Int} {a : Nat} (h : a ≠ 151) : q_w1 S φ a = S a := if_neg h
theorem s_off_w1 {S S3 : q_S} (h : s_off S S3 (fun a => a = 151)) : S3 = q_w1 S (S3 151) := by
  funext a
  by_cases e : a = 151
  · rw [e, q_w1_s]
  · rw [q_w1_n e, h a e]
noncomputable def s_pob (φ : Int → Int) (i : Int) : Int := q_sum (fun k => q_B (s_bd φ i 3 < s_bd φ k 3 ∨ (s_bd φ k 3 = s_bd φ i 3 ∧ k < i))) (φ 4).toNat
def s_suit (φ : Int → Int) (b k : Int) : Prop := s_as φ k 0 = s_bd φ b 0 ∧ s_as φ k 1 = s_bd φ b 1 ∧ s_as φ k 3 ≤ s_bd φ b 3 ∧ 0 < s_as φ k 2
noncomputable def s_naN (φ : Int → Int) (b : Int) : Nat → Int
  | 0 => -6
  | n + 1 => q_if (s_suit φ b n ∧ (s_naN φ b n = -6 ∨ s_as φ n 3 < s_as φ (s_naN φ b n) 3)) n (s_naN φ b n)
noncomputable def s_na (φ : Int → Int) (b : Int) : Int := s_naN φ b (φ 3).toNat
theorem s_naN_s {φ : Int → Int} {b k : Int} (h0 : 0 ≤ k) : s_naN φ b (k + 1).toNat = q_if (s_suit φ b k ∧ (s_naN φ b k.toNat = -6 ∨ s_as φ k 3 < s_as φ (s_naN φ b k.toNat) 3)) k (s_naN φ b k.toNat) := by
  obtain ⟨n, rfl⟩ : ∃ n : Nat, k = n := ⟨k.toNat, by omega⟩
  rw [show ((n : Int) + 1).toNat = n + 1 by omega, Int.toNat_natCast]
  rfl
theorem s_naN_b {φ : Int → Int} {b : Int} (n : Nat) : s_naN φ b n = -6 ∨ (0 ≤ s_naN φ b n ∧ s_naN φ b n < n ∧ s_suit φ b (s_naN φ b n)) := by
  induction n with
  | zero => exact Or.inl rfl
  | succ n ih =>
    by_cases hm : s_suit φ b n ∧ (s_naN φ b n = -6 ∨ s_as φ n 3 < s_as φ (s_naN φ b n) 3)
    · rw [show s_naN φ b (n + 1) = (n : Int) from q_if_t hm]
      exact Or.inr ⟨by omega, by omega, hm.1⟩
    · rw [show s_naN φ b (n + 1) = s_naN φ b n from q_if_f hm]
      exact ih.elim Or.inl (fun q => Or.inr ⟨q.1, by omega, q.2.2⟩)
theorem s_na_b {φ : Int → Int} (ok : s_ok φ) (b : Int) : s_na φ b = -6 ∨ (0 ≤ s_na φ b ∧ s_na φ b < φ 3 ∧ s_suit φ b (s_na φ b)) := by
  have h := s_naN_b (φ := φ) (b := b) (φ 3).toNat
  have h3 := ok.2.2.1
  exact h.elim Or.inl (fun q => Or.inr ⟨q.1, by have := q.2.1; show s_naN φ b (φ 3).toNat < φ 3; omega, q.2.2⟩)
theorem s_as_b {φ : Int → Int} (ok : s_ok φ) {i : Int} (h0 : 0 ≤ i) (h1 : i < 10) : (0 ≤ s_as φ i 0 ∧ s_as φ i 0 ≤ 5) ∧ (0 ≤ s_as φ i 1 ∧ s_as φ i 1 ≤ 9) ∧ (0 ≤ s_as φ i 2 ∧ s_as φ i 2 ≤ 200) ∧ (0 ≤ s_as φ i 3 ∧ s_as φ i 3 ≤ 999) := ok.2.2.2.2.2.2.2.1 i h0 h1
theorem s_bd_b {φ : Int → Int} (ok : s_ok φ) {i : Int} (h0 : 0 ≤ i) (h1 : i < 10) : (0 ≤ s_bd φ i 0 ∧ s_bd φ i 0 ≤ 5) ∧ (0 ≤ s_bd φ i 1 ∧ s_bd φ i 1 ≤ 9) ∧ (0 ≤ s_bd φ i 2 ∧ s_bd φ i 2 ≤ 200) ∧ (0 ≤ s_bd φ i 3 ∧ s_bd φ i 3 ≤ 999) ∧ (0 ≤ s_bd φ i 4 ∧ s_bd φ i 4 ≤ 5) := ok.2.2.2.2.2.2.2.2 i h0 h1
/-- u units of the ask a go to the bid b -/
def s_trd (φ : Int → Int) (a b u : Int) : Int → Int :=
  s_aw (s_aw (s_aw (s_aw φ (399 + 4 * a + 2) (-u)) (439 + 5 * b + 2) (-u)) (15 + 4 * s_bd φ b 4 + 3) (-(u * s_as φ a 3))) (15 + 4 * s_bd φ b 0 + 3) (u * s_as φ a 3)
theorem s_trd_ne {φ : Int → Int} {a b u z : Int} (h1 : z ≠ 399 + 4 * a + 2) (h2 : z ≠ 439 + 5 * b + 2) (h3 : z ≠ 15 + 4 * s_bd φ b 4 + 3) (h4 : z ≠ 15 + 4 * s_bd φ b 0 + 3) : s_trd φ a b u z = φ z := by
  unfold s_trd
  rw [s_aw_ne h4, s_aw_ne h3, s_aw_ne h2, s_aw_ne h1]
theorem s_trd_b {φ : Int → Int} (ok : s_ok φ) {a b u : Int} (a0 : 0 ≤ a) (a1 : a < 10) (b0 : 0 ≤ b) (b1 : b < 10) (u0 : 0 ≤ u) (u2 : u ≤ s_bd φ b 2) : s_trd φ a b u (439 + 5 * b + 2) = s_bd φ b 2 - u := by
  have hb := s_bd_b ok b0 b1
  unfold s_trd
  rw [s_aw_ne (by omega), s_aw_ne (by omega), s_aw_eq, s_aw_ne (by omega)]
  exact s_wr_id (z := s_bd φ b 2 + -u) ⟨by omega, by omega⟩
theorem s_trd_a {φ : Int → Int} (ok : s_ok φ) {a b u : Int} (a0 : 0 ≤ a) (a1 : a < 10) (b0 : 0 ≤ b) (b1 : b < 10) (u0 : 0 ≤ u) (u2 : u ≤ s_as φ a 2) : s_trd φ a b u (399 + 4 * a + 2) = s_as φ a 2 - u := by
  have hb := s_bd_b ok b0 b1
  have ha := s_as_b ok a0 a1
  unfold s_trd
  rw [s_aw_ne (by omega), s_aw_ne (by omega), s_aw_ne (by omega), s_aw_eq]
  exact s_wr_id (z := s_as φ a 2 + -u) ⟨by omega, by omega⟩
theorem s_ok_trd {φ : Int → Int} (ok : s_ok φ) {a b u : Int} (a0 : 0 ≤ a) (a1 : a < 10) (b0 : 0 ≤ b) (b1 : b < 10) (u0 : 0 ≤ u) (u1 : u ≤ s_as φ a 2) (u2 : u ≤ s_bd φ b 2) : s_ok (s_trd φ a b u) := by
  have hb := s_bd_b ok b0 b1
  have ha := s_as_b ok a0 a1
  have ea := s_trd_a ok a0 a1 b0 b1 u0 u1
  have eb := s_trd_b ok a0 a1 b0 b1 u0 u2
  have ok' := ok
  rw [s_ok_iff] at ok' ⊢
  obtain ⟨k1, k2, k3, k4, k5, k6, k7, k8, k9⟩ := ok'
  have ne : ∀ z : Int, z ≠ 399 + 4 * a + 2 → z ≠ 439 + 5 * b + 2 → (z < 15 ∨ 38 < z ∨ (z - 15) % 4 ≠ 3) → s_trd φ a b u z = φ z := fun z h1 h2 h3 => s_trd_ne h1 h2 (by omega) (by omega)
  refine ⟨?_, ?_, ?_, ?_, fun h' x y => ?_, fun r' x y => ?_, fun a' b' h' x1 x2 x3 x4 x5 x6 => ?_, fun i x y => ?_, fun i x y => ?_⟩
  · rw [ne _ (by omega) (by omega) (by omega)]; exact k1
  · rw [ne _ (by omega) (by omega) (by omega)]; exact k2
  · rw [ne _ (by omega) (by omega) (by omega)]; exact k3
  · rw [ne _ (by omega) (by omega) (by omega)]; exact k4
  · rw [ne _ (by omega) (by omega) (by omega)]; exact k5 h' x y
  · rw [ne _ (by omega) (by omega) (by omega), ne (15 + 4 * r' + 1) (by omega) (by omega) (by omega), ne (15 + 4 * r' + 2) (by omega) (by omega) (by omega)]; exact k6 r' x y
  · rw [ne _ (by omega) (by omega) (by omega)]; exact k7 a' b' h' x1 x2 x3 x4 x5 x6
  · have h9 := k8 i x y
    rw [ne (399 + 4 * i + 0) (by omega) (by omega) (by omega), ne (399 + 4 * i + 1) (by omega) (by omega) (by omega), ne (399 + 4 * i + 3) (by omega) (by omega) (by omega)]
    refine ⟨h9.1, h9.2.1, ?_, h9.2.2.2⟩
    by_cases e : i = a
    · subst e; rw [ea]; omega
    · rw [ne _ (by omega) (by omega) (by omega)]; exact h9.2.2.1
  · have h9 := k9 i x y
    rw [ne (439 + 5 * i + 0) (by omega) (by omega) (by omega), ne (439 + 5 * i + 1) (by omega) (by omega) (by omega), ne (439 + 5 * i + 3) (by omega) (by omega) (by omega), ne (439 + 5 * i + 4) (by omega) (by omega) (by omega)]
    refine ⟨h9.1, h9.2.1, ?_, h9.2.2.2⟩
    by_cases e : i = b
    · subst e; rw [eb]; omega
    · rw [ne _ (by omega) (by omega) (by omega)]; exact h9.2.2.1
/-- how many units the next trade has -/
noncomputable def s_tu (x : (Int → Int) × Int × Int) (b : Int) : Int := min (min (s_as x.1 (s_na x.1 b) 2) (s_bd x.1 b 2)) x.2.1
/-- what a bid gets by all asks: the numbers, the room that is left, the units so far -/
noncomputable def s_tbL (b : Int) : Nat → (Int → Int) × Int × Int → (Int → Int) × Int × Int
  | 0, x => x
  | n + 1, x => @ite _ (s_na x.1 b ≠ -6 ∧ 0 < x.2.1 ∧ 0 < s_bd x.1 b 2) (Classical.propDecidable _) (s_tbL b n (s_trd x.1 (s_na x.1 b) b (s_tu x b), x.2.1 - s_tu x b, x.2.2 + s_tu x b)) x
theorem s_tbL_t {b : Int} {n : Nat} {x : (Int → Int) × Int × Int} (h : s_na x.1 b ≠ -6 ∧ 0 < x.2.1 ∧ 0 < s_bd x.1 b 2) : s_tbL b (n + 1) x = s_tbL b n (s_trd x.1 (s_na x.1 b) b (s_tu x b), x.2.1 - s_tu x b, x.2.2 + s_tu x b) := if_pos h
theorem s_tbL_f {b : Int} {n : Nat} {x : (Int → Int) × Int × Int} (h : ¬ (s_na x.1 b ≠ -6 ∧ 0 < x.2.1 ∧ 0 < s_bd x.1 b 2)) : s_tbL b n x = x := by
  cases n with
  | zero => rfl
  | succ n => exact if_neg h
noncomputable def s_tbX (φ : Int → Int) (b : Int) : (Int → Int) × Int × Int := s_tbL b 201 (φ, 999 - s_rt φ (s_bd φ b 4) (s_bd φ b 0) (s_bd φ b 1), 0)
noncomputable def s_tbP (φ : Int → Int) (b : Int) : Int → Int := s_set (s_tbX φ b).1 (39 + 10 * (6 * s_bd φ b 4 + s_bd φ b 0) + s_bd φ b 1) (999 - (s_tbX φ b).2.1)
noncomputable def s_tbV (φ : Int → Int) (b : Int) : Int := (s_tbX φ b).2.2
