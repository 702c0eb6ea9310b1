/-! longs, as numbers from 0 on -/
def s_lo (m : Nat) : Int64 := Int64.ofBitVec (BitVec.ofNat 64 m)
theorem s_lo_of (X : Int64) : X = s_lo X.toBitVec.toNat := by
  apply Int64.toBitVec_inj.mp
  show X.toBitVec = BitVec.ofNat 64 X.toBitVec.toNat
  apply BitVec.eq_of_toNat_eq
  rw [BitVec.toNat_ofNat, Nat.mod_eq_of_lt X.toBitVec.isLt]
theorem s_lo_and {m : Nat} (h : m < 18446744073709551616) : s_lo m &&& 255 = s_lo (m % 256) := by
  apply Int64.toBitVec_inj.mp
  show BitVec.ofNat 64 m &&& BitVec.ofNat 64 255 = BitVec.ofNat 64 (m % 256)
  apply BitVec.eq_of_toNat_eq
  rw [BitVec.toNat_and, BitVec.toNat_ofNat, BitVec.toNat_ofNat, BitVec.toNat_ofNat]
  rw [Nat.mod_eq_of_lt h, show (255 : Nat) % 2 ^ 64 = 2 ^ 8 - 1 by decide, Nat.and_two_pow_sub_one_eq_mod]
  rw [Nat.mod_eq_of_lt (show m % 256 < 2 ^ 64 by omega)]
set_option maxRecDepth 200000 in
theorem s_lo_int {m : Nat} (h : m < 256) : (s_lo m).toInt32 = Int32.ofInt (m : Int) := by
  have e : ∀ n : Fin 256, (s_lo n.val).toInt32 = Int32.ofInt ((n.val : Nat) : Int) := by decide
  exact e ⟨m, h⟩
theorem s_lo_shr {m k : Nat} {y : Int32} (h : m < 18446744073709551616) (hk : k < 8) (hy : y.toInt64.toUInt64 &&& Int64.toUInt64 63 = UInt64.ofNat (8 * k)) : ((s_lo m).toUInt64 >>> (y.toInt64.toUInt64 &&& Int64.toUInt64 63)).toInt64 = s_lo (m / 256 ^ k) := by
  rw [hy]
  apply Int64.toBitVec_inj.mp
  apply BitVec.eq_of_toNat_eq
  show ((s_lo m).toUInt64 >>> UInt64.ofNat (8 * k)).toNat = (BitVec.ofNat 64 (m / 256 ^ k)).toNat
  rw [UInt64.toNat_shiftRight, BitVec.toNat_ofNat]
  have e1 : (s_lo m).toUInt64.toNat = m := by
    show (BitVec.ofNat 64 m).toNat = m
    rw [BitVec.toNat_ofNat, Nat.mod_eq_of_lt h]
  have e2 : (UInt64.ofNat (8 * k)).toNat % 64 = 8 * k := by
    rw [UInt64.toNat_ofNat']
    omega
  rw [e1, e2, Nat.shiftRight_eq_div_pow, Nat.pow_mul]
  show m / 256 ^ k = m / 256 ^ k % 2 ^ 64
  rw [Nat.mod_eq_of_lt]
  exact Nat.lt_of_le_of_lt (Nat.div_le_self _ _) h
set_option maxRecDepth 200000 in
theorem s_sh8 {k : Int} (h0 : 0 ≤ k) (h1 : k < 8) : (Int32.ofInt (8 * k)).toInt64.toUInt64 &&& Int64.toUInt64 63 = UInt64.ofNat (8 * k.toNat) := by
  have e : ∀ n : Fin 8, (Int32.ofInt (8 * ((n.val : Nat) : Int))).toInt64.toUInt64 &&& Int64.toUInt64 63 = UInt64.ofNat (8 * n.val) := by decide
  obtain ⟨n, rfl⟩ : ∃ n : Nat, k = n := ⟨k.toNat, by omega⟩
  exact e ⟨n, by omega⟩
noncomputable def s_lz (x : Int64) : Int := (lg_cmp x 0).toInt
theorem s_lz_e {x : Int64} : lg_cmp x 0 = Int32.ofInt (s_lz x) := by unfold s_lz; rw [q_ot]
theorem s_lz_b {m : Nat} (h : m < 18446744073709551616) : (s_lz (s_lo m) = 0 ↔ m = 0) ∧ -1 ≤ s_lz (s_lo m) ∧ s_lz (s_lo m) ≤ 1 := by
  have e : s_lo m = 0 ↔ m = 0 := by
    constructor
    · intro q
      have q2 : (BitVec.ofNat 64 m).toNat = (0#64).toNat := congrArg (fun x => x.toBitVec.toNat) q
      rw [BitVec.toNat_ofNat, Nat.mod_eq_of_lt h] at q2
      exact q2
    · intro q; subst q; rfl
  have d1 : (1 : Int32).toInt = 1 := by decide
  have d0 : (0 : Int32).toInt = 0 := by decide
  have dm : (-1 : Int32).toInt = -1 := by decide
  unfold s_lz lg_cmp
  split
  · rename_i g
    refine ⟨⟨fun q => ?_, fun q => ?_⟩, by rw [d1]; decide, by rw [d1]; decide⟩
    · rw [d1] at q; omega
    · rw [e.mpr q] at g; exact absurd g (by decide)
  · split
    · rename_i g; exact ⟨⟨fun _ => e.mp g, fun _ => d0⟩, by rw [d0]; decide, by rw [d0]; decide⟩
    · rename_i g
      refine ⟨⟨fun q => ?_, fun q => absurd (e.mpr q) g⟩, by rw [dm]; decide, by rw [dm]; decide⟩
      rw [dm] at q; omega
/-! signs in a long -/
def s_by (N0 : Nat) (k : Int) : Int := ((N0 / 256 ^ k.toNat % 256 : Nat) : Int)
def s_sc : Nat → Nat → Nat
  | 0, _ => 0
  | j + 1, m => if m % 256 = 0 then 0 else s_sc j (m / 256) + 1
def s_fine (N0 : Nat) (n : Int) : Prop := ∀ k : Int, 0 ≤ k → k < n → 33 ≤ s_by N0 k ∧ s_by N0 k ≤ 126
def s_svn (N0 : Nat) (n : Int) : Prop := n ≠ 0 ∧ s_fine N0 n ∧ N0 / 256 ^ n.toNat = 0
theorem s_fine_s {N0 : Nat} {n : Int} (h0 : 0 ≤ n) : s_fine N0 (n + 1) ↔ s_fine N0 n ∧ 33 ≤ s_by N0 n ∧ s_by N0 n ≤ 126 :=
  ⟨fun q => ⟨fun k k0 k1 => q k k0 (by omega), q n h0 (by omega)⟩, fun q k k0 k1 => by
    rcases (show k < n ∨ k = n by omega) with h | h
    · exact q.1 k k0 h
    · subst h; exact q.2⟩
theorem s_dv {N0 m : Nat} {n : Int} (h : m = N0 / 256 ^ n.toNat) (h0 : 0 ≤ n) : m / 256 = N0 / 256 ^ (n + 1).toNat := by
  rw [h, Nat.div_div_eq_div_mul, ← Nat.pow_succ, show (n + 1).toNat = n.toNat + 1 by omega]
theorem s_sc_s {m : Nat} {n : Int} (h0 : 0 ≤ n) (h1 : n < 8) (h : m % 256 ≠ 0) : s_sc (8 - n).toNat m = s_sc (8 - (n + 1)).toNat (m / 256) + 1 := by
  rw [show (8 - n).toNat = (8 - (n + 1)).toNat + 1 by omega]
  exact if_neg h
theorem s_sc_0 {j m : Nat} (h : j = 0 ∨ m % 256 = 0) : s_sc j m = 0 := by
  cases j with
  | zero => rfl
  | succ j => exact if_pos (h.resolve_left (by omega))
def s_app (S : q_S) (p : Int) (N0 : Nat) (n j : Int) : q_S := fun a z => if a = 155 ∧ p ≤ z ∧ z < p + j then s_by N0 (n - 1 - (z - p)) else S a z
theorem s_app_0 {S : q_S} {p : Int} {N0 : Nat} {n : Int} (hp : S 150 6 = p) : S = q_up (s_app S p N0 n 0) 150 6 (p + 0) := by
  funext a z
  unfold q_up s_app
  rw [if_neg (show ¬ (a = 155 ∧ p ≤ z ∧ z < p + 0) by omega)]
  split
  · rename_i g; rw [g.1, g.2, hp]; omega
  · rfl
theorem s_app_s {S : q_S} {p v : Int} {N0 : Nat} {n j : Int} (h0 : 0 ≤ j) (hv : v = s_by N0 (n - 1 - j)) : q_up (q_up (q_up (s_app S p N0 n j) 150 6 (p + j)) 155 (p + j) v) 150 6 (p + j + 1) = q_up (s_app S p N0 n (j + 1)) 150 6 (p + (j + 1)) := by
  funext a z
  unfold q_up s_app
  by_cases e : a = 150 ∧ z = 6
  · rw [if_pos e, if_pos e]; omega
  · simp only [if_neg e]
    by_cases e2 : a = 155 ∧ z = p + j
    · rw [if_pos e2, if_pos (by omega), hv, show n - 1 - j = n - 1 - (z - p) by omega]
    · rw [if_neg e2]
      by_cases e3 : a = 155 ∧ p ≤ z ∧ z < p + j
      · rw [if_pos e3, if_pos (by omega)]
      · rw [if_neg e3, if_neg (by omega)]
noncomputable def s_putS (S : q_S) (N0 : Nat) : q_S := @ite _ (s_svn N0 (s_sc 8 N0 : Nat) ∧ S 150 6 + (s_sc 8 N0 : Nat) ≤ 80) (Classical.propDecidable _) (q_up (s_app S (S 150 6) N0 (s_sc 8 N0 : Nat) (s_sc 8 N0 : Nat)) 150 6 (S 150 6 + (s_sc 8 N0 : Nat))) S
noncomputable def s_putV (p : Int) (N0 : Nat) : Int := q_if (s_svn N0 (s_sc 8 N0 : Nat)) (if p + (s_sc 8 N0 : Nat) ≤ 80 then p + (s_sc 8 N0 : Nat) else -4) (-2)
theorem s_put_1 {S : q_S} {N0 : Nat} {n : Int} (hn : ((s_sc 8 N0 : Nat) : Int) = n) (h : ¬ s_svn N0 n) : s_putV (S 150 6) N0 = -2 ∧ s_putS S N0 = S := by
  unfold s_putV s_putS
  rw [hn]
  exact ⟨q_if_f h, if_neg (fun q => h q.1)⟩
theorem s_put_2 {S : q_S} {N0 : Nat} {n : Int} (hn : ((s_sc 8 N0 : Nat) : Int) = n) (h : s_svn N0 n) (h2 : ¬ S 150 6 + n ≤ 80) : s_putV (S 150 6) N0 = -4 ∧ s_putS S N0 = S := by
  unfold s_putV s_putS
  rw [hn]
  exact ⟨(q_if_t h).trans (if_neg h2), if_neg (fun q => h2 q.2)⟩
theorem s_put_3 {S : q_S} {N0 : Nat} {n : Int} (hn : ((s_sc 8 N0 : Nat) : Int) = n) (h : s_svn N0 n) (h2 : S 150 6 + n ≤ 80) : s_putV (S 150 6) N0 = S 150 6 + n ∧ s_putS S N0 = q_up (s_app S (S 150 6) N0 n n) 150 6 (S 150 6 + n) := by
  unfold s_putV s_putS
  rw [hn]
  exact ⟨(q_if_t h).trans (if_pos h2), if_pos ⟨h, h2⟩⟩
