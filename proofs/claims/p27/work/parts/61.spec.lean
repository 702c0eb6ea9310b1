/-! sets of tilts as numbers: their digits -/
theorem s_p5_add (a b : Nat) : s_p5 (a + b) = s_p5 a * s_p5 b := by
  induction b with
  | zero => show s_p5 a = s_p5 a * 1; omega
  | succ b ih =>
    show s_p5 (a + b) * 5 = s_p5 a * (s_p5 b * 5)
    rw [ih, Int.mul_assoc]
def s_d5 (x : Int) (k : Nat) : Int := x / s_p5 k % 5
theorem s_dg_d5 {R x r : Int} : s_dg R x r = s_d5 x (R - 1 - r).toNat := rfl
theorem s_d5_b (x : Int) (k : Nat) : 0 ≤ s_d5 x k ∧ s_d5 x k < 5 := ⟨Int.emod_nonneg _ (by decide), Int.emod_lt_of_pos _ (by decide)⟩
/-- one digit set -/
theorem s_set_d {x c : Int} {K : Nat} (hc : 0 ≤ c) (hc4 : c < 5) : s_d5 (x + (c - s_d5 x K) * s_p5 K) K = c ∧ ∀ k, k ≠ K → s_d5 (x + (c - s_d5 x K) * s_p5 K) k = s_d5 x k := by
  have pK := s_p5_pos K
  have eK : (x + (c - s_d5 x K) * s_p5 K) / s_p5 K = x / s_p5 K + (c - s_d5 x K) := Int.add_mul_ediv_right _ _ (by omega)
  refine ⟨?_, fun k hk => ?_⟩
  · show (x + (c - s_d5 x K) * s_p5 K) / s_p5 K % 5 = c
    rw [eK]
    show (x / s_p5 K + (c - x / s_p5 K % 5)) % 5 = c
    omega
  · show (x + (c - s_d5 x K) * s_p5 K) / s_p5 k % 5 = x / s_p5 k % 5
    rcases (show k < K ∨ K < k by omega) with g | g
    · obtain ⟨j, rfl⟩ : ∃ j, K = k + (j + 1) := ⟨K - k - 1, by omega⟩
      have pk := s_p5_pos k
      rw [show s_p5 (k + (j + 1)) = s_p5 k * (s_p5 j * 5) from s_p5_add k (j + 1), show (c - s_d5 x (k + (j + 1))) * (s_p5 k * (s_p5 j * 5)) = ((c - s_d5 x (k + (j + 1))) * s_p5 j * 5) * s_p5 k by
        rw [Int.mul_comm (s_p5 k), ← Int.mul_assoc, ← Int.mul_assoc], Int.add_mul_ediv_right _ _ (by omega)]
      exact Int.add_mul_emod_self_right _ _ _
    · obtain ⟨j, rfl⟩ : ∃ j, k = K + (j + 1) := ⟨k - K - 1, by omega⟩
      have e : ∀ y : Int, y / s_p5 (K + (j + 1)) = y / s_p5 K / 5 / s_p5 j := fun y => by
        rw [show s_p5 (K + (j + 1)) = s_p5 K * (s_p5 j * 5) from s_p5_add K (j + 1), Int.mul_comm (s_p5 j), ← Int.mul_assoc, ← Int.ediv_ediv_of_nonneg (by omega), ← Int.ediv_ediv_of_nonneg (by omega)]
      rw [e, e x, eK]
      have e2 : (x / s_p5 K + (c - s_d5 x K)) / 5 = x / s_p5 K / 5 := by
        show (x / s_p5 K + (c - x / s_p5 K % 5)) / 5 = x / s_p5 K / 5
        omega
      rw [e2]
theorem s_set_r {x c : Int} {K n : Nat} (hc : 0 ≤ c) (hc4 : c < 5) (h0 : 0 ≤ x) (h1 : x < s_p5 n) (hK : K < n) : 0 ≤ x + (c - s_d5 x K) * s_p5 K ∧ x + (c - s_d5 x K) * s_p5 K < s_p5 n := by
  obtain ⟨j, rfl⟩ : ∃ j, n = K + (j + 1) := ⟨n - K - 1, by omega⟩
  have pK := s_p5_pos K
  have pj := s_p5_pos j
  have eK : (x + (c - s_d5 x K) * s_p5 K) / s_p5 K = x / s_p5 K + (c - s_d5 x K) := Int.add_mul_ediv_right _ _ (by omega)
  have en : s_p5 (K + (j + 1)) = s_p5 K * (s_p5 j * 5) := s_p5_add K (j + 1)
  have q0 : 0 ≤ x / s_p5 K := Int.ediv_nonneg h0 (by omega)
  have q1 : x / s_p5 K < s_p5 j * 5 := by
    refine Int.ediv_lt_of_lt_mul (by omega) ?_
    rw [Int.mul_comm, ← en]; exact h1
  have d : s_d5 x K = x / s_p5 K % 5 := rfl
  have r0 : 0 ≤ x / s_p5 K + (c - s_d5 x K) ∧ x / s_p5 K + (c - s_d5 x K) < s_p5 j * 5 := by omega
  rw [← eK] at r0
  generalize x + (c - s_d5 x K) * s_p5 K = y at r0
  have dm := Int.mul_ediv_add_emod y (s_p5 K)
  have em := Int.emod_nonneg y (show s_p5 K ≠ 0 by omega)
  have el := Int.emod_lt_of_pos y (show 0 < s_p5 K by omega)
  refine ⟨?_, ?_⟩
  · have := Int.mul_nonneg (show 0 ≤ s_p5 K by omega) r0.1; omega
  · rw [en]
    have h : s_p5 K * (y / s_p5 K + 1) ≤ s_p5 K * (s_p5 j * 5) := Int.mul_le_mul_of_nonneg_left (by omega) (by omega)
    rw [Int.mul_add, Int.mul_one] at h
    omega
theorem s_d5_ext {x y : Int} {n : Nat} (x0 : 0 ≤ x) (x1 : x < s_p5 n) (y0 : 0 ≤ y) (y1 : y < s_p5 n) (h : ∀ k, k < n → s_d5 x k = s_d5 y k) : x = y := by
  have key : ∀ m : Nat, m ≤ n → x / s_p5 (n - m) = y / s_p5 (n - m) := by
    intro m
    induction m with
    | zero => intro _; rw [Nat.sub_zero, Int.ediv_eq_zero_of_lt x0 x1, Int.ediv_eq_zero_of_lt y0 y1]
    | succ m ih =>
      intro hm
      have q := ih (by omega)
      have e : ∀ z : Int, z / s_p5 (n - m) = z / s_p5 (n - (m + 1)) / 5 := fun z => by
        rw [show n - m = (n - (m + 1)) + 1 by omega]
        show z / (s_p5 (n - (m + 1)) * 5) = _
        rw [← Int.ediv_ediv_of_nonneg (by have := s_p5_pos (n - (m + 1)); omega)]
      rw [e, e] at q
      have d : x / s_p5 (n - (m + 1)) % 5 = y / s_p5 (n - (m + 1)) % 5 := h _ (by omega)
      omega
  have q := key n (Nat.le_refl _)
  rw [Nat.sub_self] at q
  have e1 : ∀ z : Int, z / s_p5 0 = z := fun z => Int.ediv_one z
  rw [e1, e1] at q
  exact q
/-! sums over an order -/
theorem q_sum_pt {f : Int → Int} {t : Int} (n : Nat) (h0 : 0 ≤ t) (h1 : t < n) : q_sum (fun k => f k * q_B (k = t)) n = f t := by
  have key : ∀ m : Nat, q_sum (fun k => f k * q_B (k = t)) m = if t < m then f t else 0 := by
    intro m
    induction m with
    | zero => rw [if_neg (by omega)]; rfl
    | succ m ih =>
      show q_sum (fun k => f k * q_B (k = t)) m + f m * q_B ((m : Int) = t) = _
      rw [ih]
      by_cases e : (m : Int) = t
      · rw [q_B_t e, if_neg (by omega), if_pos (by omega), e]; omega
      · rw [q_B_f e]
        by_cases g : t < m
        · rw [if_pos g, if_pos (by omega)]; omega
        · rw [if_neg g, if_neg (by omega)]; omega
  rw [key, if_pos h1]
theorem s_so_sum {V T : Int → Int} {n : Int} (H : s_so V T n) (f : Int → Int) (h0 : 0 ≤ n) : q_sum (fun p => f (T p)) n.toNat = q_sum f n.toNat := by
  have key : ∀ i : Nat, i ≤ n → q_sum (fun k => f k * q_B (∃ j : Int, 0 ≤ j ∧ j < i ∧ T j = k)) n.toNat = q_sum (fun p => f (T p)) i := by
    intro i
    induction i with
    | zero =>
      intro _
      rw [q_sum_c (g := fun _ => 0) (fun k _ _ => by rw [q_B_f (fun ⟨j, a, b, _⟩ => by omega), Int.mul_zero]), q_sum_0]; rfl
    | succ i ih =>
      intro hi
      have ih := ih (by omega)
      have ti := H.1 i (by omega) (by omega)
      rw [q_sum_c (g := fun k => f k * q_B (∃ j : Int, 0 ≤ j ∧ j < i ∧ T j = k) + f k * q_B (k = T i)) (fun k k0 k1 => ?_), q_sum_add, ih, q_sum_pt _ ti.1 (by omega)]
      · rfl
      · rw [← Int.mul_add]
        refine congrArg (f k * ·) ?_
        by_cases e : k = T i
        · have nj : ¬ ∃ j : Int, 0 ≤ j ∧ j < i ∧ T j = k := by
            rintro ⟨j, a, b, c⟩
            have q := H.2.1 j i a b (by omega)
            rw [c, e] at q
            omega
          rw [q_B_t e, q_B_f nj, q_B_t ⟨i, by omega, by omega, e.symm⟩]; rfl
        · rw [q_B_f e]
          by_cases g : ∃ j : Int, 0 ≤ j ∧ j < i ∧ T j = k
          · obtain ⟨j, a, b, c⟩ := g
            rw [q_B_t (P := ∃ j : Int, 0 ≤ j ∧ j < ((i + 1 : Nat) : Int) ∧ T j = k) ⟨j, a, by omega, c⟩, q_B_t (P := ∃ j : Int, 0 ≤ j ∧ j < i ∧ T j = k) ⟨j, a, b, c⟩]; rfl
          · rw [q_B_f g, q_B_f (fun ⟨j, a, b, c⟩ => g ⟨j, a, by
              rcases (show j < i ∨ j = i by omega) with f | f
              · exact f
              · subst f; exact absurd c.symm e, c⟩)]; rfl
  have q := key n.toNat (by omega)
  rw [← q]
  refine q_sum_c (fun k k0 k1 => ?_)
  obtain ⟨j, a, b, c⟩ := H.2.2 k k0 (by omega)
  rw [q_B_t ⟨j, a, by omega, c⟩, Int.mul_one]
/-! what a set of tilts yields over the lengths; rows in the order of the shadows -/
def s_Vd (φ : Int → Int) (h r : Int) : Int := if h < 5 then s_pt φ r 0 else -s_pt φ r 0
theorem s_Vd_d {φ : Int → Int} {a b h : Int} : s_dist φ a b h = s_Vd φ h b - s_Vd φ h a := by unfold s_dist s_Vd; split <;> omega
noncomputable def s_sd (φ : Int → Int) (tl T : Int → Int) (r h : Int) : Nat → Int
  | 0 => 0
  | n + 1 => max (s_sd φ tl T r h n) (s_sh φ (T n) (s_ti φ (T n) (tl (T n)) h) r h)
theorem s_sd_s {φ : Int → Int} {tl T : Int → Int} {r h k : Int} (h0 : 0 ≤ k) : s_sd φ tl T r h (k + 1).toNat = max (s_sd φ tl T r h k.toNat) (s_sh φ (T k) (s_ti φ (T k) (tl (T k)) h) r h) := by
  obtain ⟨n, rfl⟩ : ∃ n : Nat, k = n := ⟨k.toNat, by omega⟩
  rw [show ((n : Int) + 1).toNat = n + 1 by omega, Int.toNat_natCast]
  rfl
noncomputable def s_g2 (φ : Int → Int) (tl : Int → Int) (h r : Int) : Int := max 0 (s_pt φ r 1 * s_ti φ r (tl r) h - s_mx φ tl r h (φ 0).toNat) * s_sun h
noncomputable def s_gh (φ : Int → Int) (tl : Int → Int) (h : Int) : Int := q_sum (s_g2 φ tl h) (φ 0).toNat
noncomputable def s_ga (φ : Int → Int) (tl T : Int → Int) (h q : Int) : Int := max 0 (s_pt φ (T q) 1 * s_ti φ (T q) (tl (T q)) h - s_sd φ tl T (T q) h q.toNat) * s_sun h
theorem s_mx_le {φ : Int → Int} {tl : Int → Int} {r h y : Int} (n : Nat) : s_mx φ tl r h n ≤ y ↔ 0 ≤ y ∧ ∀ k : Int, 0 ≤ k → k < n → s_hx φ k (s_ti φ k (tl k) h) r h ≤ y := by
  induction n with
  | zero => exact ⟨fun q => ⟨q, fun k k0 k1 => by omega⟩, fun q => q.1⟩
  | succ n ih =>
    show max _ _ ≤ y ↔ _
    constructor
    · intro q
      have q1 := ih.mp (by omega)
      refine ⟨q1.1, fun k k0 k1 => ?_⟩
      rcases (show k < n ∨ k = n by omega) with g | g
      · exact q1.2 k k0 g
      · subst g; omega
    · intro q
      have q1 := ih.mpr ⟨q.1, fun k k0 k1 => q.2 k k0 (by omega)⟩
      have q2 := q.2 n (by omega) (by omega)
      omega
theorem s_sd_le {φ : Int → Int} {tl T : Int → Int} {r h y : Int} (n : Nat) : s_sd φ tl T r h n ≤ y ↔ 0 ≤ y ∧ ∀ k : Int, 0 ≤ k → k < n → s_sh φ (T k) (s_ti φ (T k) (tl (T k)) h) r h ≤ y := by
  induction n with
  | zero => exact ⟨fun q => ⟨q, fun k k0 k1 => by omega⟩, fun q => q.1⟩
  | succ n ih =>
    show max _ _ ≤ y ↔ _
    constructor
    · intro q
      have q1 := ih.mp (by omega)
      refine ⟨q1.1, fun k k0 k1 => ?_⟩
      rcases (show k < n ∨ k = n by omega) with g | g
      · exact q1.2 k k0 g
      · subst g; omega
    · intro q
      have q1 := ih.mpr ⟨q.1, fun k k0 k1 => q.2 k k0 (by omega)⟩
      have q2 := q.2 n (by omega) (by omega)
      omega
/-- of all rows only those before it in the order can shade one -/
theorem s_mx_sd {φ : Int → Int} {tl T : Int → Int} {h q : Int} (H : s_so (s_Vd φ h) T (φ 0)) (q0 : 0 ≤ q) (q1 : q < φ 0) : s_mx φ tl (T q) h (φ 0).toNat = s_sd φ tl T (T q) h q.toNat := by
  refine Int.le_antisymm ((s_mx_le _).mpr ?_) ((s_sd_le _).mpr ?_)
  · have b := (s_sd_le (φ := φ) (tl := tl) (T := T) (r := T q) (h := h) q.toNat).mp (Int.le_refl _)
    refine ⟨b.1, fun k k0 k1 => ?_⟩
    obtain ⟨j, j0, j1, e⟩ := H.2.2 k k0 (by omega)
    rcases (show j < q ∨ j = q ∨ q < j by omega) with g | g | g
    · have c := b.2 j j0 (by omega)
      rw [e] at c
      unfold s_hx
      split
      · exact b.1
      · exact c
    · unfold s_hx
      rw [if_pos (by rw [← e, g])]; exact b.1
    · have d := H.2.1 q j q0 g j1
      rw [e] at d
      have d2 : s_dist φ k (T q) h ≤ 0 := by rw [s_Vd_d]; omega
      unfold s_hx s_sh
      split
      · exact b.1
      · exact b.1
  · have b := (s_mx_le (φ := φ) (tl := tl) (r := T q) (h := h) (φ 0).toNat).mp (Int.le_refl _)
    refine ⟨b.1, fun k k0 k1 => ?_⟩
    have t := H.1 k k0 (by omega)
    have c := b.2 (T k) t.1 (by omega)
    unfold s_hx at c
    rw [if_neg (fun e => by have d := H.2.1 k q k0 (by omega) q1; rw [e] at d; omega)] at c
    exact c
theorem s_gh_ga {φ : Int → Int} {tl T : Int → Int} {h : Int} (H : s_so (s_Vd φ h) T (φ 0)) (h0 : 0 ≤ φ 0) : s_gh φ tl h = q_sum (s_ga φ tl T h) (φ 0).toNat := by
  unfold s_gh
  rw [← s_so_sum H _ h0]
  refine q_sum_c (fun q q0 q1 => ?_)
  show s_g2 φ tl h (T q) = s_ga φ tl T h q
  unfold s_g2 s_ga
  rw [s_mx_sd H q0 (by omega)]
theorem s_sd_cg {φ : Int → Int} {tl tl2 T : Int → Int} {r h : Int} (n : Nat) (e : ∀ j : Int, 0 ≤ j → j < n → tl2 (T j) = tl (T j)) : s_sd φ tl2 T r h n = s_sd φ tl T r h n := by
  induction n with
  | zero => rfl
  | succ n ih =>
    show max _ _ = max _ _
    rw [ih (fun j j0 j1 => e j j0 (by omega)), e n (by omega) (by omega)]
theorem s_ga_cg {φ : Int → Int} {tl tl2 T : Int → Int} {h q : Int} (q0 : 0 ≤ q) (e : ∀ j : Int, 0 ≤ j → j ≤ q → tl2 (T j) = tl (T j)) : s_ga φ tl2 T h q = s_ga φ tl T h q := by
  unfold s_ga
  rw [s_sd_cg q.toNat (fun j j0 j1 => e j j0 (by omega)), e q q0 (Int.le_refl _)]
