/-! the world at the start -/
def s_V8 (c : Nat) : q_S := (q_up (q_up (q_up (q_up (q_nw (s_mrg (q_up (q_up s_Z (c + 1) 6 7) (c + 27) 2 109) (s_V1 (c + 29) 7) (c + 29)) (c + 122) (-1)) (c + 123) 6 7) (c + 122) 0 ((c + 123 : Nat) : Int)) (c + 136) 6 7) (c + 122) 1 ((c + 136 : Nat) : Int))
theorem s_V8_e {a : Nat} {z : Int} (h : a < 150) : s_V8 0 a z = if a = 1 ∧ z = 6 then 7 else if a = 27 ∧ z = 2 then 109 else if a = 30 then (if 0 ≤ z ∧ z < 7 then 31 + 13 * z else -1) else if 31 ≤ a ∧ a < 122 ∧ (a - 31) % 13 = 0 ∧ z = 6 then 7 else if a = 122 then (if z = 0 then 123 else if z = 1 then 136 else -1) else if (a = 123 ∨ a = 136) ∧ z = 6 then 7 else 0 := by
  simp only [s_V8, s_mrg, s_ia, q_up, q_nw, s_Z, s_V1]
  omega
theorem w_J0 {S A : q_S} (h8 : ∀ a, a < 150 → S a = s_V8 0 a) (w : ∀ z, A 151 z = if z = 1 then 7 else 0) (u : ∀ (a : Nat) (z : Int), 150 ≤ a → a ≠ 151 → A a z = 0) : s_Jc S A := by
  have v : ∀ (a : Nat) (z : Int), a < 150 → S a z = if a = 1 ∧ z = 6 then 7 else if a = 27 ∧ z = 2 then 109 else if a = 30 then (if 0 ≤ z ∧ z < 7 then 31 + 13 * z else -1) else if 31 ≤ a ∧ a < 122 ∧ (a - 31) % 13 = 0 ∧ z = 6 then 7 else if a = 122 then (if z = 0 then 123 else if z = 1 then 136 else -1) else if (a = 123 ∨ a = 136) ∧ z = 6 then 7 else 0 := fun a z h => by rw [h8 a h]; exact s_V8_e h
  have f : ∀ (a : Nat) (z : Int), 1 ≤ a → a ≤ 13 → S a z = if a = 1 ∧ z = 6 then 7 else 0 := fun a z g1 g2 => by rw [v a z (by omega)]; omega
  have n0 : A 150 2 = 0 := u 150 2 (by omega) (by omega)
  have p0 : A 150 6 = 0 := u 150 6 (by omega) (by omega)
  refine ⟨⟨?_, ?_, ?_⟩, ?_, ?_, ⟨?_, ?_⟩, ?_, ?_, ?_, ?_, ?_⟩
  · unfold s_F
    refine ⟨?_, ?_, ?_, fun r r0 r1 => ⟨?_, ?_, ?_, ?_⟩, fun h g0 g1 => ?_, fun j j0 j1 => ?_, ?_, ?_, fun i p i0 i1 p0 p1 => ?_, fun i i0 i1 => ?_, fun i p i0 i1 p0 p1 => ?_⟩
    · rw [f _ _ (by omega) (by omega), w]; omega
    · rw [f _ _ (by omega) (by omega), w]; omega
    · rw [f _ _ (by omega) (by omega), w]; omega
    · rw [f _ _ (by omega) (by omega)]; unfold s_pt; rw [w]; omega
    · rw [f _ _ (by omega) (by omega)]; unfold s_pt; rw [w]; omega
    · rw [f _ _ (by omega) (by omega)]; unfold s_pt; rw [w]; omega
    · rw [f _ _ (by omega) (by omega)]; unfold s_pt; rw [w]; omega
    · rw [f _ _ (by omega) (by omega), w]; omega
    · rw [f _ _ (by omega) (by omega), w]; omega
    · rw [f _ _ (by omega) (by omega), w]; omega
    · rw [f _ _ (by omega) (by omega), w]; omega
    · rw [w] at i1; omega
    · rw [w] at i1; omega
    · rw [w] at i1; omega
  · unfold s_ok s_pt s_rt s_as s_bd
    refine ⟨?_, ?_, ?_, ?_, fun h g0 g1 => ?_, fun r r0 r1 => ?_, fun a b h a0 a1 b0 b1 g0 g1 => ?_, fun i i0 i1 => ?_, fun i i0 i1 => ?_⟩ <;> simp only [w] <;> first | omega | simp
  · unfold s_pz s_pt s_as s_bd
    refine ⟨fun r r0 r1 => ?_, fun i i0 i1 => ?_, fun i i0 i1 => ?_⟩
    · rw [w] at r0 ⊢; omega
    · rw [w] at i1; omega
    · rw [w] at i1; omega
  · rw [n0, v 29 0 (by omega)]; omega
  · rw [n0]; omega
  · intro i i0 i1
    refine ⟨(31 + 13 * i).toNat, ?_, ?_⟩
    · rw [v 30 i (by omega)]; omega
    · unfold s_hF; omega
  · intro i j i0 i1 j0 j1 h
    rw [v 30 i (by omega), v 30 j (by omega)] at h
    omega
  · intro i i0 i1
    rw [n0] at i1; omega
  · intro k k0 k1
    rw [v 149 k (by omega), v 122 k (by omega), u 154 k (by omega) (by omega)]
    refine ⟨by omega, Or.inl rfl, ?_⟩
    have e : k = 0 ∨ k = 1 := by omega
    rcases e with rfl | rfl <;> decide
  · intro k k0 k1 h
    rw [u 154 k (by omega) (by omega)] at h; omega
  · rw [p0, v 25 1 (by omega)]; omega
  · intro z z0 z1
    rw [p0] at z1; omega
def w_A0 : q_S := fun a z => if a = 151 ∧ z = 1 then 7 else 0
theorem w_A0_w (z : Int) : w_A0 151 z = if z = 1 then 7 else 0 := by unfold w_A0; simp
theorem w_A0_u (a : Nat) (z : Int) (_ : 150 ≤ a) (h : a ≠ 151) : w_A0 a z = 0 := by unfold w_A0; rw [if_neg (by omega)]
theorem w_R00 {S : q_S} (h : ∀ (a : Nat) (z : Int), 150 ≤ a → a < 156 → S a z = if a = 153 ∧ z = 3 then 7 else 0) : w_R0 S (w_A0 151) 0 := by
  have w := w_A0_w
  refine ⟨by rw [w]; decide, ⟨?_, ?_, ?_⟩, ⟨by rw [w]; decide, by rw [w]; decide⟩, fun r p r0 r1 p0 p1 => by omega, fun r r0 r1 => ?_, fun i a b i0 i1 a0 a1 b0 b1 => ?_, ⟨?_, fun i i0 i1 => ?_⟩, fun r r0 r1 => ?_, fun r r0 r1 => by omega⟩
  · rw [h 150 0 (by decide) (by decide)]; simp
  · rw [h 150 1 (by decide) (by decide)]; simp
  · rw [h 150 2 (by decide) (by decide), w]; simp
  · rw [h 151 _ (by decide) (by decide)]; simp
  · have wb := w_h_b i
    unfold s_rt
    rw [h 152 _ (by decide) (by decide), w, if_neg (by omega), if_neg (by omega)]
  · rw [h 153 3 (by decide) (by decide), w]; simp
  · have wb := w_h_b i
    rw [h 153 i (by decide) (by decide), w, if_neg (by omega), if_neg (by omega)]
  · unfold s_pt
    rw [w, if_neg (by omega)]
