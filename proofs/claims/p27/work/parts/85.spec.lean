/-! the arrays and the field changed alike; masks; the best that is left -/
theorem w_R_as2 {S : q_S} {φ : Int → Int} {q v : Int} (H : w_R S φ) (q0 : 0 ≤ q) (q1 : q < 10) : w_R (q_up S 154 (4 * q + 2) v) (s_set φ (399 + 4 * q + 2) v) := by
  obtain ⟨g0, g1, g2, g3, g4, g5, g6, g7⟩ := H
  have n : ∀ z : Int, z ≠ 399 + 4 * q + 2 → s_set φ (399 + 4 * q + 2) v z = φ z := fun z h => s_set_ne h
  have m : ∀ c9 : Nat, c9 ≠ 154 → q_up S 154 (4 * q + 2) v c9 = S c9 := fun c9 h => q_up_ne h
  have k : ∀ z : Int, z ≠ 4 * q + 2 → q_up S 154 (4 * q + 2) v 154 z = S 154 z := fun z h => q_up_nz h
  refine ⟨by rw [n _ (by omega)]; exact g0, ?_, fun r2 p2 r20 r21 p20 p21 => ?_, fun i2 a2 b2 i20 i21 a20 a21 b20 b21 => ?_, ?_, fun j j0 j1 => ?_, fun j j0 j1 => ?_, fun r2 r20 r21 => ?_⟩
  · rw [m 150 (by decide), n 3 (by omega), n 4 (by omega), n 2 (by omega)]; exact g1
  · rw [m 151 (by decide)]
    unfold s_pt
    rw [n _ (by omega)]
    exact g2 r2 p2 r20 r21 p20 p21
  · have wb2 := w_h_b i2
    rw [m 152 (by decide)]
    unfold s_rt
    rw [n _ (by omega)]
    exact g3 i2 a2 b2 i20 i21 a20 a21 b20 b21
  · rw [m 153 (by decide), n 1 (by omega)]
    refine ⟨g4.1, fun i2 i20 i21 => ?_⟩
    have wb2 := w_h_b i2
    rw [n _ (by omega)]
    exact g4.2 i2 i20 i21
  · rw [n 3 (by omega)] at j1
    have g := g5 j j0 j1
    unfold w_A s_as at g ⊢
    rw [k (4 * j) (by omega), k (4 * j + 1) (by omega), k (4 * j + 3) (by omega), n (399 + 4 * j + 0) (by omega), n (399 + 4 * j + 1) (by omega), n (399 + 4 * j + 3) (by omega)]
    refine ⟨g.1, g.2.1, ?_, g.2.2.2.1, g.2.2.2.2⟩
    by_cases e : j = q
    · rw [e, q_up_eq, s_set_eq]
    · rw [k _ (by omega), n _ (by omega)]; exact g.2.2.1
  · rw [n 4 (by omega)] at j1
    have g := g6 j j0 j1
    unfold w_B s_bd at g ⊢
    rw [m 155 (by decide), n (439 + 5 * j + 0) (by omega), n (439 + 5 * j + 1) (by omega), n (439 + 5 * j + 2) (by omega), n (439 + 5 * j + 3) (by omega), n (439 + 5 * j + 4) (by omega)]
    exact g
  · unfold s_pt
    rw [n _ (by omega)]
    exact g7 r2 r20 r21
theorem w_R_bd2 {S : q_S} {φ : Int → Int} {q v : Int} (H : w_R S φ) (q0 : 0 ≤ q) (q1 : q < 10) (c3 : φ 3 ≤ 10) : w_R (q_up S 155 (5 * q + 2) v) (s_set φ (439 + 5 * q + 2) v) := by
  obtain ⟨g0, g1, g2, g3, g4, g5, g6, g7⟩ := H
  have n : ∀ z : Int, z ≠ 439 + 5 * q + 2 → s_set φ (439 + 5 * q + 2) v z = φ z := fun z h => s_set_ne h
  have m : ∀ c9 : Nat, c9 ≠ 155 → q_up S 155 (5 * q + 2) v c9 = S c9 := fun c9 h => q_up_ne h
  have k : ∀ z : Int, z ≠ 5 * q + 2 → q_up S 155 (5 * q + 2) v 155 z = S 155 z := fun z h => q_up_nz h
  refine ⟨by rw [n _ (by omega)]; exact g0, ?_, fun r2 p2 r20 r21 p20 p21 => ?_, fun i2 a2 b2 i20 i21 a20 a21 b20 b21 => ?_, ?_, fun j j0 j1 => ?_, fun j j0 j1 => ?_, fun r2 r20 r21 => ?_⟩
  · rw [m 150 (by decide), n 3 (by omega), n 4 (by omega), n 2 (by omega)]; exact g1
  · rw [m 151 (by decide)]
    unfold s_pt
    rw [n _ (by omega)]
    exact g2 r2 p2 r20 r21 p20 p21
  · have wb2 := w_h_b i2
    rw [m 152 (by decide)]
    unfold s_rt
    rw [n _ (by omega)]
    exact g3 i2 a2 b2 i20 i21 a20 a21 b20 b21
  · rw [m 153 (by decide), n 1 (by omega)]
    refine ⟨g4.1, fun i2 i20 i21 => ?_⟩
    have wb2 := w_h_b i2
    rw [n _ (by omega)]
    exact g4.2 i2 i20 i21
  · rw [n 3 (by omega)] at j1
    have g := g5 j j0 j1
    unfold w_A s_as at g ⊢
    rw [m 154 (by decide), n (399 + 4 * j + 0) (by omega), n (399 + 4 * j + 1) (by omega), n (399 + 4 * j + 2) (by omega), n (399 + 4 * j + 3) (by omega)]
    exact g
  · rw [n 4 (by omega)] at j1
    have g := g6 j j0 j1
    unfold w_B s_bd at g ⊢
    rw [k (5 * j) (by omega), k (5 * j + 1) (by omega), k (5 * j + 3) (by omega), k (5 * j + 4) (by omega), n (439 + 5 * j + 0) (by omega), n (439 + 5 * j + 1) (by omega), n (439 + 5 * j + 3) (by omega), n (439 + 5 * j + 4) (by omega)]
    refine ⟨g.1, g.2.1, ?_, g.2.2.2.1, g.2.2.2.2⟩
    by_cases e : j = q
    · rw [e, q_up_eq, s_set_eq]
    · rw [k _ (by omega), n _ (by omega)]; exact g.2.2.1
  · unfold s_pt
    rw [n _ (by omega)]
    exact g7 r2 r20 r21
theorem w_R_pt {S : q_S} {φ : Int → Int} {r p v : Int} (H : w_R S φ) (r0 : 0 ≤ r) (r1 : r < 4) (p0 : 0 ≤ p) (p1 : p < 4) : w_R (q_up S 151 (4 * r + p) v) (s_set φ (15 + 4 * r + p) v) := by
  obtain ⟨g0, g1, g2, g3, g4, g5, g6, g7⟩ := H
  have n : ∀ z : Int, z ≠ 15 + 4 * r + p → s_set φ (15 + 4 * r + p) v z = φ z := fun z h => s_set_ne h
  have m : ∀ c9 : Nat, c9 ≠ 151 → q_up S 151 (4 * r + p) v c9 = S c9 := fun c9 h => q_up_ne h
  have k : ∀ z : Int, z ≠ 4 * r + p → q_up S 151 (4 * r + p) v 151 z = S 151 z := fun z h => q_up_nz h
  refine ⟨by rw [n _ (by omega)]; exact g0, ?_, fun r2 p2 r20 r21 p20 p21 => ?_, fun i2 a2 b2 i20 i21 a20 a21 b20 b21 => ?_, ?_, fun j j0 j1 => ?_, fun j j0 j1 => ?_, fun r2 r20 r21 => ?_⟩
  · rw [m 150 (by decide), n 3 (by omega), n 4 (by omega), n 2 (by omega)]; exact g1
  · unfold s_pt
    by_cases e : r2 = r ∧ p2 = p
    · rw [e.1, e.2, q_up_eq, s_set_eq]
    · rw [k _ (by omega), n _ (by omega)]; exact g2 r2 p2 r20 r21 p20 p21
  · have wb2 := w_h_b i2
    rw [m 152 (by decide)]
    unfold s_rt
    rw [n _ (by omega)]
    exact g3 i2 a2 b2 i20 i21 a20 a21 b20 b21
  · rw [m 153 (by decide), n 1 (by omega)]
    refine ⟨g4.1, fun i2 i20 i21 => ?_⟩
    have wb2 := w_h_b i2
    rw [n _ (by omega)]
    exact g4.2 i2 i20 i21
  · rw [n 3 (by omega)] at j1
    have g := g5 j j0 j1
    unfold w_A s_as at g ⊢
    rw [m 154 (by decide), n (399 + 4 * j + 0) (by omega), n (399 + 4 * j + 1) (by omega), n (399 + 4 * j + 2) (by omega), n (399 + 4 * j + 3) (by omega)]
    exact g
  · rw [n 4 (by omega)] at j1
    have g := g6 j j0 j1
    unfold w_B s_bd at g ⊢
    rw [m 155 (by decide), n (439 + 5 * j + 0) (by omega), n (439 + 5 * j + 1) (by omega), n (439 + 5 * j + 2) (by omega), n (439 + 5 * j + 3) (by omega), n (439 + 5 * j + 4) (by omega)]
    exact g
  · unfold s_pt
    rw [n _ (by omega)]
    exact g7 r2 r20 r21
theorem w_R_rt {S : q_S} {φ : Int → Int} {i a b v : Int} (H : w_R S φ) (i0 : 0 ≤ i) (i1 : i < 3) (a0 : 0 ≤ a) (a1 : a < 4) (b0 : 0 ≤ b) (b1 : b < 4) : w_R (q_up S 152 (16 * i + 4 * a + b) v) (s_set φ (39 + 10 * (6 * a + b) + w_h i) v) := by
  obtain ⟨g0, g1, g2, g3, g4, g5, g6, g7⟩ := H
  have wbi := w_h_b i
  have n : ∀ z : Int, z ≠ 39 + 10 * (6 * a + b) + w_h i → s_set φ (39 + 10 * (6 * a + b) + w_h i) v z = φ z := fun z h => s_set_ne h
  have m : ∀ c9 : Nat, c9 ≠ 152 → q_up S 152 (16 * i + 4 * a + b) v c9 = S c9 := fun c9 h => q_up_ne h
  have k : ∀ z : Int, z ≠ 16 * i + 4 * a + b → q_up S 152 (16 * i + 4 * a + b) v 152 z = S 152 z := fun z h => q_up_nz h
  refine ⟨by rw [n _ (by omega)]; exact g0, ?_, fun r2 p2 r20 r21 p20 p21 => ?_, fun i2 a2 b2 i20 i21 a20 a21 b20 b21 => ?_, ?_, fun j j0 j1 => ?_, fun j j0 j1 => ?_, fun r2 r20 r21 => ?_⟩
  · rw [m 150 (by decide), n 3 (by omega), n 4 (by omega), n 2 (by omega)]; exact g1
  · rw [m 151 (by decide)]
    unfold s_pt
    rw [n _ (by omega)]
    exact g2 r2 p2 r20 r21 p20 p21
  · have wb2 := w_h_b i2
    unfold s_rt
    by_cases e : i2 = i ∧ a2 = a ∧ b2 = b
    · rw [e.1, e.2.1, e.2.2, q_up_eq, s_set_eq]
    · rw [k _ (by omega), n _ (by unfold w_h; omega)]; exact g3 i2 a2 b2 i20 i21 a20 a21 b20 b21
  · rw [m 153 (by decide), n 1 (by omega)]
    refine ⟨g4.1, fun i2 i20 i21 => ?_⟩
    have wb2 := w_h_b i2
    rw [n _ (by omega)]
    exact g4.2 i2 i20 i21
  · rw [n 3 (by omega)] at j1
    have g := g5 j j0 j1
    unfold w_A s_as at g ⊢
    rw [m 154 (by decide), n (399 + 4 * j + 0) (by omega), n (399 + 4 * j + 1) (by omega), n (399 + 4 * j + 2) (by omega), n (399 + 4 * j + 3) (by omega)]
    exact g
  · rw [n 4 (by omega)] at j1
    have g := g6 j j0 j1
    unfold w_B s_bd at g ⊢
    rw [m 155 (by decide), n (439 + 5 * j + 0) (by omega), n (439 + 5 * j + 1) (by omega), n (439 + 5 * j + 2) (by omega), n (439 + 5 * j + 3) (by omega), n (439 + 5 * j + 4) (by omega)]
    exact g
  · unfold s_pt
    rw [n _ (by omega)]
    exact g7 r2 r20 r21
theorem w_R_wi {S : q_S} {φ : Int → Int} {i v : Int} (H : w_R S φ) (i0 : 0 ≤ i) (i1 : i < 3) : w_R (q_up S 153 (i) v) (s_set φ (5 + w_h i) v) := by
  obtain ⟨g0, g1, g2, g3, g4, g5, g6, g7⟩ := H
  have wbi := w_h_b i
  have n : ∀ z : Int, z ≠ 5 + w_h i → s_set φ (5 + w_h i) v z = φ z := fun z h => s_set_ne h
  have m : ∀ c9 : Nat, c9 ≠ 153 → q_up S 153 (i) v c9 = S c9 := fun c9 h => q_up_ne h
  have k : ∀ z : Int, z ≠ i → q_up S 153 (i) v 153 z = S 153 z := fun z h => q_up_nz h
  refine ⟨by rw [n _ (by omega)]; exact g0, ?_, fun r2 p2 r20 r21 p20 p21 => ?_, fun i2 a2 b2 i20 i21 a20 a21 b20 b21 => ?_, ?_, fun j j0 j1 => ?_, fun j j0 j1 => ?_, fun r2 r20 r21 => ?_⟩
  · rw [m 150 (by decide), n 3 (by omega), n 4 (by omega), n 2 (by omega)]; exact g1
  · rw [m 151 (by decide)]
    unfold s_pt
    rw [n _ (by omega)]
    exact g2 r2 p2 r20 r21 p20 p21
  · have wb2 := w_h_b i2
    rw [m 152 (by decide)]
    unfold s_rt
    rw [n _ (by omega)]
    exact g3 i2 a2 b2 i20 i21 a20 a21 b20 b21
  · rw [k 3 (by omega), n 1 (by omega)]
    refine ⟨g4.1, fun i2 i20 i21 => ?_⟩
    have wb2 := w_h_b i2
    by_cases e : i2 = i
    · rw [e, q_up_eq, s_set_eq]
    · rw [k _ e, n _ (by unfold w_h; omega)]; exact g4.2 i2 i20 i21
  · rw [n 3 (by omega)] at j1
    have g := g5 j j0 j1
    unfold w_A s_as at g ⊢
    rw [m 154 (by decide), n (399 + 4 * j + 0) (by omega), n (399 + 4 * j + 1) (by omega), n (399 + 4 * j + 2) (by omega), n (399 + 4 * j + 3) (by omega)]
    exact g
  · rw [n 4 (by omega)] at j1
    have g := g6 j j0 j1
    unfold w_B s_bd at g ⊢
    rw [m 155 (by decide), n (439 + 5 * j + 0) (by omega), n (439 + 5 * j + 1) (by omega), n (439 + 5 * j + 2) (by omega), n (439 + 5 * j + 3) (by omega), n (439 + 5 * j + 4) (by omega)]
    exact g
  · unfold s_pt
    rw [n _ (by omega)]
    exact g7 r2 r20 r21
theorem w_R_q2 {S : q_S} {φ : Int → Int} {v : Int} (H : w_R S φ)  : w_R (q_up S 150 (2) v) (s_set φ (2) v) := by
  obtain ⟨g0, g1, g2, g3, g4, g5, g6, g7⟩ := H
  have n : ∀ z : Int, z ≠ 2 → s_set φ (2) v z = φ z := fun z h => s_set_ne h
  have m : ∀ c9 : Nat, c9 ≠ 150 → q_up S 150 (2) v c9 = S c9 := fun c9 h => q_up_ne h
  have k : ∀ z : Int, z ≠ 2 → q_up S 150 (2) v 150 z = S 150 z := fun z h => q_up_nz h
  refine ⟨by rw [n _ (by omega)]; exact g0, ?_, fun r2 p2 r20 r21 p20 p21 => ?_, fun i2 a2 b2 i20 i21 a20 a21 b20 b21 => ?_, ?_, fun j j0 j1 => ?_, fun j j0 j1 => ?_, fun r2 r20 r21 => ?_⟩
  · rw [k 0 (by omega), k 1 (by omega), q_up_eq, n 3 (by omega), n 4 (by omega), s_set_eq]; exact ⟨g1.1, g1.2.1, rfl⟩
  · rw [m 151 (by decide)]
    unfold s_pt
    rw [n _ (by omega)]
    exact g2 r2 p2 r20 r21 p20 p21
  · have wb2 := w_h_b i2
    rw [m 152 (by decide)]
    unfold s_rt
    rw [n _ (by omega)]
    exact g3 i2 a2 b2 i20 i21 a20 a21 b20 b21
  · rw [m 153 (by decide), n 1 (by omega)]
    refine ⟨g4.1, fun i2 i20 i21 => ?_⟩
    have wb2 := w_h_b i2
    rw [n _ (by omega)]
    exact g4.2 i2 i20 i21
  · rw [n 3 (by omega)] at j1
    have g := g5 j j0 j1
    unfold w_A s_as at g ⊢
    rw [m 154 (by decide), n (399 + 4 * j + 0) (by omega), n (399 + 4 * j + 1) (by omega), n (399 + 4 * j + 2) (by omega), n (399 + 4 * j + 3) (by omega)]
    exact g
  · rw [n 4 (by omega)] at j1
    have g := g6 j j0 j1
    unfold w_B s_bd at g ⊢
    rw [m 155 (by decide), n (439 + 5 * j + 0) (by omega), n (439 + 5 * j + 1) (by omega), n (439 + 5 * j + 2) (by omega), n (439 + 5 * j + 3) (by omega), n (439 + 5 * j + 4) (by omega)]
    exact g
  · unfold s_pt
    rw [n _ (by omega)]
    exact g7 r2 r20 r21
theorem w_wr_add {x y : Int} : s_wr (s_wr x + y) = s_wr (x + y) := by
  unfold s_wr
  rw [Int32.ofInt_add, q_ot, ← Int32.ofInt_add]
theorem w_wr_add2 {x y z : Int} : s_wr (s_wr x + y + z) = s_wr (x + y + z) := by
  rw [Int.add_assoc, w_wr_add, ← Int.add_assoc]
/-- masks -/
def w_bt (D k : Int) : Int := D / 2 ^ k.toNat % 2
def w_or (D b : Int) : Int := if w_bt D b = 1 then D else D + 2 ^ b.toNat
def w_mk (D : Int) (P : Int → Prop) : Prop := (0 ≤ D ∧ D < 1024) ∧ ∀ j, 0 ≤ j → j < 10 → (w_bt D j = 1 ∧ P j) ∨ (w_bt D j = 0 ∧ ¬ P j)
theorem w_shr {D k : Int} (d0 : 0 ≤ D) (d1 : D < 1024) (k0 : 0 ≤ k) (k1 : k < 10) : Int32.ofInt D >>> (Int32.ofInt k &&& 31) = Int32.ofInt (D / 2 ^ k.toNat) := by
  have h : ∀ d : Nat, d < 1024 → ∀ j : Nat, j < 10 → Int32.ofInt (d : Int) >>> (Int32.ofInt (j : Int) &&& 31) = Int32.ofInt ((d : Int) / 2 ^ j) := by decide +kernel
  have q := h D.toNat (by omega) k.toNat (by omega)
  rw [Int.toNat_of_nonneg d0, Int.toNat_of_nonneg k0] at q
  exact q
theorem w_dv {D k : Int} (d0 : 0 ≤ D) (d1 : D < 1024) : 0 ≤ D / 2 ^ k.toNat ∧ D / 2 ^ k.toNat < 1024 := by
  have a : 0 ≤ D / 2 ^ k.toNat := Int.ediv_nonneg d0 (Int.le_of_lt (Int.pow_pos (by decide)))
  have b : D / 2 ^ k.toNat ≤ D := Int.ediv_le_self _ d0
  exact ⟨a, by omega⟩
theorem w_and1 {D k : Int} (d0 : 0 ≤ D) (d1 : D < 1024) : Int32.ofInt (D / 2 ^ k.toNat) &&& Int32.ofInt 1 = Int32.ofInt (w_bt D k) := by
  have h : ∀ d : Nat, d < 1024 → Int32.ofInt (d : Int) &&& Int32.ofInt 1 = Int32.ofInt ((d : Int) % 2) := by decide +kernel
  have b := w_dv (k := k) d0 d1
  unfold w_bt
  have q := h (D / 2 ^ k.toNat).toNat (by omega)
  rw [Int.toNat_of_nonneg b.1] at q
  exact q
theorem w_bt_b (D k : Int) : 0 ≤ w_bt D k ∧ w_bt D k ≤ 1 := by
  unfold w_bt
  omega
theorem w_shl {b : Int} (b0 : 0 ≤ b) (b1 : b < 10) : Int32.ofInt 1 <<< (Int32.ofInt b &&& 31) = Int32.ofInt (2 ^ b.toNat) := by
  have h : ∀ j : Nat, j < 10 → Int32.ofInt 1 <<< (Int32.ofInt (j : Int) &&& 31) = Int32.ofInt (2 ^ j) := by decide +kernel
  have q := h b.toNat (by omega)
  rw [Int.toNat_of_nonneg b0] at q
  exact q
theorem w_or_e {D b : Int} (d0 : 0 ≤ D) (d1 : D < 1024) (b0 : 0 ≤ b) (b1 : b < 10) : Int32.ofInt D ||| Int32.ofInt (2 ^ b.toNat) = Int32.ofInt (w_or D b) := by
  have h : ∀ d : Nat, d < 1024 → ∀ j : Nat, j < 10 → Int32.ofInt (d : Int) ||| Int32.ofInt (2 ^ j) = Int32.ofInt (if (d : Int) / 2 ^ j % 2 = 1 then (d : Int) else (d : Int) + 2 ^ j) := by decide +kernel
  have q := h D.toNat (by omega) b.toNat (by omega)
  rw [Int.toNat_of_nonneg d0] at q
  exact q
theorem w_mk_or {D b : Int} {P : Int → Prop} (H : w_mk D P) (b0 : 0 ≤ b) (b1 : b < 10) : w_mk (w_or D b) (fun j => P j ∨ j = b) := by
  have h : ∀ d : Nat, d < 1024 → ∀ j : Nat, j < 10 → (0 ≤ (if (d : Int) / 2 ^ j % 2 = 1 then (d : Int) else (d : Int) + 2 ^ j) ∧ (if (d : Int) / 2 ^ j % 2 = 1 then (d : Int) else (d : Int) + 2 ^ j) < 1024) ∧ ∀ i : Nat, i < 10 → (if (d : Int) / 2 ^ j % 2 = 1 then (d : Int) else (d : Int) + 2 ^ j) / 2 ^ i % 2 = if i = j then 1 else (d : Int) / 2 ^ i % 2 := by decide +kernel
  have q := h D.toNat (by have := H.1; omega) b.toNat (by omega)
  rw [Int.toNat_of_nonneg H.1.1] at q
  refine ⟨q.1, fun j j0 j1 => ?_⟩
  have r := q.2 j.toNat (by omega)
  have e : w_bt (w_or D b) j = if j.toNat = b.toNat then 1 else w_bt D j := r
  rw [e]
  by_cases g : j = b
  · rw [if_pos (by omega)]
    exact Or.inl ⟨rfl, Or.inr g⟩
  · rw [if_neg (by omega)]
    rcases H.2 j j0 j1 with k | k
    · exact Or.inl ⟨k.1, Or.inl k.2⟩
    · exact Or.inr ⟨k.1, fun t => t.elim k.2 g⟩
theorem w_mk_cg {D : Int} {P P2 : Int → Prop} (H : w_mk D P) (h : ∀ j, 0 ≤ j → j < 10 → (P j ↔ P2 j)) : w_mk D P2 := ⟨H.1, fun j j0 j1 => by
  rcases H.2 j j0 j1 with k | k
  · exact Or.inl ⟨k.1, (h j j0 j1).mp k.2⟩
  · exact Or.inr ⟨k.1, fun t => k.2 ((h j j0 j1).mpr t)⟩⟩
def w_dn (T : Int → Int) (n : Int) : Int → Prop := fun j => ∃ q, 0 ≤ q ∧ q < n ∧ T q = j
theorem w_mk_0 {T : Int → Int} : w_mk 0 (w_dn T 0) := ⟨by decide, fun j j0 j1 => Or.inr ⟨by unfold w_bt; rw [Int.zero_ediv]; rfl, fun ⟨q, q0, q1, _⟩ => by omega⟩⟩
theorem w_mk_s {D n : Int} {T : Int → Int} (H : w_mk D (w_dn T n)) (n0 : 0 ≤ n) (b0 : 0 ≤ T n) (b1 : T n < 10) : w_mk (w_or D (T n)) (w_dn T (n + 1)) :=
  w_mk_cg (w_mk_or H b0 b1) (fun j _ _ => ⟨fun h => by
    rcases h with ⟨q, q0, q1, e⟩ | e
    · exact ⟨q, q0, by omega, e⟩
    · exact ⟨n, n0, by omega, e.symm⟩, fun ⟨q, q0, q1, e⟩ => by
    rcases (show q < n ∨ q = n by omega) with g | g
    · exact Or.inl ⟨q, q0, g, e⟩
    · subst g; exact Or.inr e.symm⟩)
/-- the best of those before k that are not done: -1 if all are -/
def w_sel (V : Int → Int) (P : Int → Prop) (k b : Int) : Prop := (b = -1 ∧ ∀ j, 0 ≤ j → j < k → P j) ∨ ((0 ≤ b ∧ b < k) ∧ ¬ P b ∧ ∀ j, 0 ≤ j → j < k → ¬ P j → V b < V j ∨ (V b = V j ∧ b ≤ j))
theorem w_sel_b {V : Int → Int} {P : Int → Prop} {k b : Int} (H : w_sel V P k b) : b = -1 ∨ (0 ≤ b ∧ b < k) := H.elim (fun h => Or.inl h.1) (fun h => Or.inr h.1)
theorem w_sel_i {V : Int → Int} {P : Int → Prop} : w_sel V P 0 (-1) := Or.inl ⟨rfl, fun j _ _ => by omega⟩
theorem w_sel_p {V : Int → Int} {P : Int → Prop} {k b : Int} (H : w_sel V P k b) (p : P k) : w_sel V P (k + 1) b := by
  rcases H with h | h
  · refine Or.inl ⟨h.1, fun j j0 j1 => ?_⟩
    rcases (show j < k ∨ j = k by omega) with g | g
    · exact h.2 j j0 g
    · subst g; exact p
  · refine Or.inr ⟨⟨h.1.1, by omega⟩, h.2.1, fun j j0 j1 n => ?_⟩
    rcases (show j < k ∨ j = k by omega) with g | g
    · exact h.2.2 j j0 g n
    · subst g; exact absurd p n
theorem w_sel_0 {V : Int → Int} {P : Int → Prop} {k b : Int} (H : w_sel V P k b) (k0 : 0 ≤ k) (p : ¬ P k) (hb : b < 0 ∨ V k < V b) : w_sel V P (k + 1) k := by
  refine Or.inr ⟨⟨k0, by omega⟩, p, fun j j0 j1 n => ?_⟩
  rcases (show j < k ∨ j = k by omega) with g | g
  · rcases H with h | h
    · exact absurd (h.2 j j0 g) n
    · have q := h.2.2 j j0 g n
      omega
  · subst g; exact Or.inr ⟨rfl, Int.le_refl _⟩
theorem w_sel_n {V : Int → Int} {P : Int → Prop} {k b : Int} (H : w_sel V P k b) (hb : 0 ≤ b) (hv : V b ≤ V k) : w_sel V P (k + 1) b := by
  rcases H with h | h
  · omega
  · refine Or.inr ⟨⟨h.1.1, by omega⟩, h.2.1, fun j j0 j1 n => ?_⟩
    rcases (show j < k ∨ j = k by omega) with g | g
    · exact h.2.2 j j0 g n
    · subst g; omega
theorem w_sel_e {V T : Int → Int} {n i b : Int} (HT : s_so V T n) (i0 : 0 ≤ i) (i1 : i < n) (H : w_sel V (w_dn T i) n b) : b = T i := by
  have inj : ∀ q, 0 ≤ q → q < n → T q = T i → q = i := fun q q0 q1 e => by
    rcases (show q < i ∨ q = i ∨ i < q by omega) with g | g | g
    · have := HT.2.1 q i q0 g i1; rw [e] at this; omega
    · exact g
    · have := HT.2.1 i q i0 g q1; rw [e] at this; omega
  have ti := HT.1 i i0 i1
  have nd : ¬ w_dn T i (T i) := fun ⟨q, q0, q1, e⟩ => by have := inj q q0 (by omega) e; omega
  rcases H with h | h
  · exact absurd (h.2 (T i) ti.1 ti.2) nd
  · obtain ⟨j, j0, j1, e⟩ := HT.2.2 b h.1.1 h.1.2
    have hji : i ≤ j := by
      rcases (show j < i ∨ i ≤ j by omega) with g | g
      · exact absurd ⟨j, j0, g, e⟩ h.2.1
      · exact g
    rcases (show j = i ∨ i < j by omega) with g | g
    · rw [← e, g]
    · have a := HT.2.1 i j i0 g j1
      have c := h.2.2 (T i) ti.1 ti.2 nd
      rw [e] at a
      omega
/-- any row of numbers can be put in order -/
theorem w_so_ex (V : Int → Int) (m : Nat) : ∃ T, s_so V T m := by
  induction m with
  | zero => exact ⟨fun _ => 0, s_so_0⟩
  | succ m ih =>
    obtain ⟨T, H⟩ := ih
    have st : ∀ u : Nat, (u : Int) ≤ m → (∀ j : Int, u ≤ j → j < (m : Int) → V m < V (T j)) → ∃ w : Int, 0 ≤ w ∧ w ≤ m ∧ (∀ j, w ≤ j → j < (m : Int) → V m < V (T j)) ∧ (w = 0 ∨ V (T (w - 1)) ≤ V m) := by
      intro u
      induction u with
      | zero => exact fun _ h => ⟨0, Int.le_refl _, by omega, h, Or.inl rfl⟩
      | succ u ihu =>
        intro hu h
        by_cases g : V (T u) ≤ V m
        · exact ⟨((u + 1 : Nat) : Int), by omega, hu, h, Or.inr (by rw [show ((u + 1 : Nat) : Int) - 1 = u by omega]; exact g)⟩
        · exact ihu (by omega) (fun j j0 j1 => by
            rcases (show j = (u : Int) ∨ ((u + 1 : Nat) : Int) ≤ j by omega) with e | e
            · rw [e]; omega
            · exact h j e j1)
    obtain ⟨w, w0, w1, w2, w3⟩ := st m (Int.le_refl _) (fun j j0 j1 => by omega)
    refine ⟨fun j => if j < w then T j else if j = w then m else T (j - 1), ?_⟩
    have r := s_so_ins (X := fun j => if j < w then T j else if j = w then (m : Int) else T (j - 1)) H w0 w1 (fun j _ j1 => if_pos j1) (by show (if w < w then T w else if w = w then (m : Int) else T (w - 1)) = m; rw [if_neg (by omega), if_pos rfl]) (fun j j0 j1 => ⟨by show (if j < w then T j else if j = w then (m : Int) else T (j - 1)) = _; rw [if_neg (by omega), if_neg (by omega)], w2 (j - 1) (by omega) (by omega)⟩) w3
    exact r
def w_offT (S S2 : q_S) : Prop := ∀ a : Nat, a < 150 → S2 a = S a
theorem w_offT_r {S : q_S} : w_offT S S := fun _ _ => rfl
theorem w_offT_t {S S2 S3 : q_S} (h : w_offT S S2) (g : w_offT S2 S3) : w_offT S S3 := fun a ha => (g a ha).trans (h a ha)
theorem w_offT_u {S S2 : q_S} {c : Nat} {z v : Int} (h : w_offT S S2) (hc : 150 ≤ c) : w_offT S (q_up S2 c z v) := fun a ha => (q_up_ne (by omega)).trans (h a ha)
/-- n units of the ask a traded to the bid b -/
def w_tr (φ : Int → Int) (b a n : Int) : Int → Int := s_set (s_trd φ a b n) (s_ri φ b) (φ (s_ri φ b) + n)
theorem w_tr_0 {φ : Int → Int} (ok : s_ok φ) (hp : ∀ r, 0 ≤ r → r < 6 → q_rg (s_pt φ r 3)) {b a : Int} (b0 : 0 ≤ b) (b1 : b < 10) (a0 : 0 ≤ a) (a1 : a < 10) : w_tr φ b a 0 = φ := by
  unfold w_tr
  rw [s_trd_0 ok hp b0 b1 a0 a1 rfl, Int.add_zero, s_set_self]
def w_t5 (χ : Int → Int) (iA iB iR iP iQ p : Int) : Int → Int := s_aw (s_aw (s_set (s_set (s_set χ iA (χ iA - 1)) iB (χ iB - 1)) iR (χ iR + 1)) iP (-p)) iQ p
theorem w_tr_s {φ : Int → Int} (ok : s_ok φ) {b a n : Int} (b0 : 0 ≤ b) (b1 : b < 10) (a0 : 0 ≤ a) (a1 : a < 10) (n0 : 0 ≤ n) (n1 : n < s_as φ a 2) (n2 : n < s_bd φ b 2) : w_t5 (w_tr φ b a n) (399 + 4 * a + 2) (439 + 5 * b + 2) (s_ri φ b) (15 + 4 * s_bd φ b 4 + 3) (15 + 4 * s_bd φ b 0 + 3) (s_as φ a 3) = w_tr φ b a (n + 1) := by
  have hb := s_bd_b ok b0 b1
  have ri := s_ri_b ok b0 b1
  have ea := s_trd_a ok (u := n) a0 a1 b0 b1 n0 (by omega)
  have eb := s_trd_b ok (u := n) a0 a1 b0 b1 n0 (by omega)
  have ea2 := s_trd_a ok (u := n + 1) a0 a1 b0 b1 (by omega) (by omega)
  have eb2 := s_trd_b ok (u := n + 1) a0 a1 b0 b1 (by omega) (by omega)
  have en : (n + 1) * s_as φ a 3 = n * s_as φ a 3 + s_as φ a 3 := by rw [Int.add_mul, Int.one_mul]
  funext z
  unfold w_t5
  by_cases zA : z = 399 + 4 * a + 2
  · subst zA
    rw [s_aw_ne (by omega), s_aw_ne (by omega), s_set_ne (by omega), s_set_ne (by omega), s_set_eq]
    unfold w_tr
    rw [s_set_ne (by omega), s_set_ne (by omega), ea, ea2]
    omega
  · by_cases zB : z = 439 + 5 * b + 2
    · subst zB
      rw [s_aw_ne (by omega), s_aw_ne (by omega), s_set_ne (by omega), s_set_eq]
      unfold w_tr
      rw [s_set_ne (by omega), s_set_ne (by omega), eb, eb2]
      omega
    · by_cases zR : z = s_ri φ b
      · subst zR
        rw [s_aw_ne (by omega), s_aw_ne (by omega), s_set_eq]
        unfold w_tr
        rw [s_set_eq, s_set_eq]
        omega
      · have tr : ∀ u y : Int, y ≠ s_ri φ b → w_tr φ b a u y = s_trd φ a b u y := fun u y h => s_set_ne h
        have tq : ∀ u, s_trd φ a b u (15 + 4 * s_bd φ b 0 + 3) = s_wr ((if s_bd φ b 0 = s_bd φ b 4 then s_wr (φ (15 + 4 * s_bd φ b 4 + 3) + -(u * s_as φ a 3)) else φ (15 + 4 * s_bd φ b 0 + 3)) + u * s_as φ a 3) := fun u => by
          unfold s_trd
          rw [s_aw_eq]
          by_cases e : s_bd φ b 0 = s_bd φ b 4
          · rw [if_pos e, e, s_aw_eq, s_aw_ne (by omega), s_aw_ne (by omega)]
          · rw [if_neg e, s_aw_ne (by omega), s_aw_ne (by omega), s_aw_ne (by omega)]
        have tp : ∀ u, s_bd φ b 0 ≠ s_bd φ b 4 → s_trd φ a b u (15 + 4 * s_bd φ b 4 + 3) = s_wr (φ (15 + 4 * s_bd φ b 4 + 3) + -(u * s_as φ a 3)) := fun u e => by
          unfold s_trd
          rw [s_aw_ne (by omega), s_aw_eq, s_aw_ne (by omega), s_aw_ne (by omega)]
        by_cases zQ : z = 15 + 4 * s_bd φ b 0 + 3
        · subst zQ
          rw [s_aw_eq, tr _ _ zR, tq]
          by_cases e : s_bd φ b 0 = s_bd φ b 4
          · rw [if_pos e, e, s_aw_eq, s_set_ne (by omega), s_set_ne (by omega), s_set_ne (by omega), tr _ _ (by omega)]
            have t := tq n
            rw [if_pos e, e] at t
            rw [t, w_wr_add, w_wr_add, w_wr_add, w_wr_add2]
            congr 1
            omega
          · rw [if_neg e, s_aw_ne (by omega), s_set_ne (by omega), s_set_ne (by omega), s_set_ne (by omega), tr _ _ zR, tq, if_neg e, w_wr_add]
            congr 1
            omega
        · by_cases zP : z = 15 + 4 * s_bd φ b 4 + 3
          · subst zP
            have e : s_bd φ b 0 ≠ s_bd φ b 4 := by omega
            rw [s_aw_ne (by omega), s_aw_eq, s_set_ne (by omega), s_set_ne (by omega), s_set_ne (by omega), tr _ _ zR, tr _ _ zR, tp _ e, tp _ e, w_wr_add]
            congr 1
            omega
          · rw [s_aw_ne zQ, s_aw_ne zP, s_set_ne zR, s_set_ne zB, s_set_ne zA, tr _ _ zR, tr _ _ zR, s_trd_ne zA zB zP zQ, s_trd_ne zA zB zP zQ]
theorem w_tr_e {φ : Int → Int} {b a : Int} : w_tr φ b a (s_tu1 φ b a) = s_tr1 φ b a := rfl
