/-! the class' pad -/
def s_cz (m : Nat) (c : Int) : Int := if (m : Int) < c then -1 else if (m : Int) = c then 0 else 1
theorem s_cz_b (m : Nat) (c : Int) : (s_cz m c < 0 ↔ (m : Int) < c) ∧ (0 < s_cz m c ↔ c < (m : Int)) ∧ -1 ≤ s_cz m c ∧ s_cz m c ≤ 1 := by unfold s_cz; omega
set_option maxRecDepth 200000 in
theorem s_lo_c33 {m : Nat} (h : m < 256) : lg_cmp (s_lo m) 33 = Int32.ofInt (s_cz m 33) := by
  have e : ∀ n : Fin 256, lg_cmp (s_lo n.val) 33 = Int32.ofInt (s_cz n.val 33) := by decide
  exact e ⟨m, h⟩
set_option maxRecDepth 200000 in
theorem s_lo_c126 {m : Nat} (h : m < 256) : lg_cmp (s_lo m) 126 = Int32.ofInt (s_cz m 126) := by
  have e : ∀ n : Fin 256, lg_cmp (s_lo n.val) 126 = Int32.ofInt (s_cz n.val 126) := by decide
  exact e ⟨m, h⟩
set_option maxRecDepth 200000 in
theorem s_i2c {m : Nat} (h : m < 256) : ((Int32.ofInt (m : Int)).toUInt32 % 65536).toInt32 = Int32.ofInt (m : Int) := by
  have e : ∀ n : Fin 256, ((Int32.ofInt ((n.val : Nat) : Int)).toUInt32 % 65536).toInt32 = Int32.ofInt ((n.val : Nat) : Int) := by decide
  exact e ⟨m, h⟩
noncomputable def s_cn (N0 : Nat) : Int := q_if (s_svn N0 (s_sc 8 N0 : Nat)) (s_sc 8 N0 : Nat) 0
theorem s_sc_b (j m : Nat) : s_sc j m ≤ j := by
  induction j generalizing m with
  | zero => exact Nat.le_refl _
  | succ j ih =>
    have := ih (m / 256)
    show (if m % 256 = 0 then 0 else s_sc j (m / 256) + 1) ≤ j + 1
    split <;> omega
theorem s_cn_b (N0 : Nat) : 0 ≤ s_cn N0 ∧ s_cn N0 ≤ 8 := by
  have h := s_sc_b 8 N0
  by_cases q : s_svn N0 (s_sc 8 N0 : Nat)
  · rw [show s_cn N0 = (s_sc 8 N0 : Nat) from q_if_t q]; omega
  · rw [show s_cn N0 = 0 from q_if_f q]; omega
theorem s_cn_0 {N0 m : Nat} {n : Int} (h0 : 0 ≤ n) (h8 : n < 8) (hm : m = N0 / 256 ^ n.toNat) (hs : ((s_sc (8 - n).toNat m : Nat) : Int) + n = (s_sc 8 N0 : Nat)) (hz : m ≠ 0) (hb : ¬ (33 ≤ s_by N0 n ∧ s_by N0 n ≤ 126)) : 0 = s_cn N0 := by
  refine (q_if_f (fun q => ?_)).symm
  by_cases e : m % 256 = 0
  · have e0 := s_sc_0 (j := (8 - n).toNat) (m := m) (Or.inr e)
    rw [e0] at hs
    have q3 := q.2.2
    rw [← hs] at q3
    rw [show (((0 : Nat) : Int) + n).toNat = n.toNat by omega, ← hm] at q3
    exact hz q3
  · have e1 := s_sc_s h0 h8 e
    exact hb (q.2.1 n h0 (by omega))
theorem s_cn_n {N0 m : Nat} {n : Int} (hN : N0 < 18446744073709551616) (h0 : 0 ≤ n) (h8 : n ≤ 8) (hm : m = N0 / 256 ^ n.toNat) (hs : ((s_sc (8 - n).toNat m : Nat) : Int) + n = (s_sc 8 N0 : Nat)) (hf : s_fine N0 n) (hz : m = 0 ∨ n = 8) : n = s_cn N0 := by
  have e0 : s_sc (8 - n).toNat m = 0 := s_sc_0 (by omega)
  have hm0 : m = 0 := by
    rcases hz with hz | hz
    · exact hz
    · rw [hm, hz]
      exact Nat.div_eq_of_lt hN
  rw [e0] at hs
  have hs2 : ((s_sc 8 N0 : Nat) : Int) = n := by omega
  unfold s_cn
  rw [hs2]
  by_cases e : n = 0
  · rw [q_if_f (fun q => q.1 e), e]
  · rw [q_if_t ⟨e, hf, by rw [← hm]; exact hm0⟩]
def s_apC (S : q_S) (p : Int) (N0 : Nat) (n j : Int) : q_S := fun a z => if a = 26 ∧ p + n - j ≤ z ∧ z < p + n then s_by N0 (p + n - 1 - z) else S a z
theorem s_apC_0 {S : q_S} {p : Int} {N0 : Nat} {n : Int} : s_apC S p N0 n 0 = S := by
  funext a z
  unfold s_apC
  rw [if_neg (by omega)]
theorem s_apC_ne {S : q_S} {p : Int} {N0 : Nat} {n j : Int} {a : Nat} (h : a ≠ 26) : s_apC S p N0 n j a = S a := by
  funext z
  unfold s_apC
  rw [if_neg (by omega)]
theorem s_apC_s {S : q_S} {p z v : Int} {N0 : Nat} {n j : Int} (h0 : 0 ≤ j) (hz : z = p + n - 1 - j) (hv : v = s_by N0 j) : q_up (s_apC S p N0 n j) 26 z v = s_apC S p N0 n (j + 1) := by
  funext a y
  unfold q_up s_apC
  by_cases e : a = 26 ∧ y = z
  · rw [if_pos e, if_pos (by omega), hv, show p + n - 1 - y = j by omega]
  · rw [if_neg e]
    show (if a = 26 ∧ p + n - j ≤ y ∧ y < p + n then s_by N0 (p + n - 1 - y) else S a y) = _
    by_cases e2 : a = 26 ∧ p + n - j ≤ y ∧ y < p + n
    · rw [if_pos e2, if_pos (by omega)]
    · rw [if_neg e2, if_neg (by omega)]
noncomputable def s_putC (S : q_S) (N0 : Nat) : q_S := @ite _ (s_cn N0 ≠ 0 ∧ S 25 1 + s_cn N0 ≤ 80) (Classical.propDecidable _) (q_up (s_apC S (S 25 1) N0 (s_cn N0) (s_cn N0)) 25 1 (S 25 1 + s_cn N0)) S
theorem s_cn_c {N0 : Nat} (h : s_cn N0 ≠ 0) : s_svn N0 (s_sc 8 N0 : Nat) ∧ s_cn N0 = (s_sc 8 N0 : Nat) := by
  by_cases q : s_svn N0 (s_sc 8 N0 : Nat)
  · exact ⟨q, q_if_t q⟩
  · exact absurd (q_if_f q) h
theorem s_cn_z {N0 : Nat} (h : s_cn N0 = 0) : ¬ s_svn N0 (s_sc 8 N0 : Nat) := fun q => by
  have e : s_cn N0 = (s_sc 8 N0 : Nat) := q_if_t q
  exact q.1 (by omega)
theorem s_putV_1 {p : Int} {N0 : Nat} (h : s_cn N0 = 0) : s_putV p N0 = -2 := q_if_f (s_cn_z h)
theorem s_putV_2 {p : Int} {N0 : Nat} (h : s_cn N0 ≠ 0) : s_putV p N0 = if p + s_cn N0 ≤ 80 then p + s_cn N0 else -4 := by
  have q := s_cn_c h
  rw [q.2]
  exact q_if_t q.1
