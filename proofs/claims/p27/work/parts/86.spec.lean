theorem w_tr_v {φ : Int → Int} (ok : s_ok φ) {b a n : Int} (b0 : 0 ≤ b) (b1 : b < 10) (a0 : 0 ≤ a) (a1 : a < 10) (n0 : 0 ≤ n) (n1 : n ≤ s_as φ a 2) (n2 : n ≤ s_bd φ b 2) : w_tr φ b a n 3 = φ 3 ∧ w_tr φ b a n 4 = φ 4 ∧ w_tr φ b a n (399 + 4 * a + 2) = s_as φ a 2 - n ∧ w_tr φ b a n (439 + 5 * b + 2) = s_bd φ b 2 - n ∧ w_tr φ b a n (s_ri φ b) = φ (s_ri φ b) + n ∧ s_as (w_tr φ b a n) a 3 = s_as φ a 3 ∧ s_bd (w_tr φ b a n) b 0 = s_bd φ b 0 ∧ s_bd (w_tr φ b a n) b 4 = s_bd φ b 4 := by
  have hb := s_bd_b ok b0 b1
  have ri := s_ri_b ok b0 b1
  have e : ∀ z : Int, z ≠ s_ri φ b → w_tr φ b a n z = s_trd φ a b n z := fun z h => s_set_ne h
  refine ⟨?_, ?_, ?_, ?_, s_set_eq, ?_, ?_, ?_⟩
  · rw [e _ (by omega), s_trd_ne (by omega) (by omega) (by omega) (by omega)]
  · rw [e _ (by omega), s_trd_ne (by omega) (by omega) (by omega) (by omega)]
  · rw [e _ (by omega)]; exact s_trd_a ok a0 a1 b0 b1 n0 n1
  · rw [e _ (by omega)]; exact s_trd_b ok a0 a1 b0 b1 n0 n2
  · unfold s_as; rw [e _ (by omega), s_trd_ne (by omega) (by omega) (by omega) (by omega)]
  · show w_tr φ b a n (439 + 5 * b + 0) = s_bd φ b 0; rw [e _ (by omega), s_trd_ne (by omega) (by omega) (by omega) (by omega)]; rfl
  · show w_tr φ b a n (439 + 5 * b + 4) = s_bd φ b 4; rw [e _ (by omega), s_trd_ne (by omega) (by omega) (by omega) (by omega)]; rfl
