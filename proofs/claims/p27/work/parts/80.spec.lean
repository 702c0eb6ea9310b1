/-! the law's own arrays (150 counts, 151 rows, 152 rights, 153 winds, 154 asks, 155 bids) hold a field of four rows, in the hours 0, 4, 7 -/
def w_h (i : Int) : Int := if i = 0 then 0 else if i = 1 then 4 else 7
theorem w_h_b (i : Int) : 0 ≤ w_h i ∧ w_h i < 10 := by unfold w_h; omega
def w_A (S : q_S) (φ : Int → Int) (k : Int) : Prop := S 154 (4 * k) = s_as φ k 0 ∧ (0 ≤ S 154 (4 * k + 1) ∧ S 154 (4 * k + 1) < 3 ∧ w_h (S 154 (4 * k + 1)) = s_as φ k 1) ∧ S 154 (4 * k + 2) = s_as φ k 2 ∧ S 154 (4 * k + 3) = s_as φ k 3 ∧ s_as φ k 0 < 4
def w_B (S : q_S) (φ : Int → Int) (k : Int) : Prop := S 155 (5 * k) = s_bd φ k 0 ∧ (0 ≤ S 155 (5 * k + 1) ∧ S 155 (5 * k + 1) < 3 ∧ w_h (S 155 (5 * k + 1)) = s_bd φ k 1) ∧ S 155 (5 * k + 2) = s_bd φ k 2 ∧ S 155 (5 * k + 3) = s_bd φ k 3 ∧ S 155 (5 * k + 4) = s_bd φ k 4 ∧ s_bd φ k 0 < 4 ∧ s_bd φ k 4 < 4
def w_R (S : q_S) (φ : Int → Int) : Prop := φ 0 = 4 ∧ (S 150 0 = φ 3 ∧ S 150 1 = φ 4 ∧ S 150 2 = φ 2) ∧ (∀ r p, 0 ≤ r → r < 4 → 0 ≤ p → p < 4 → S 151 (4 * r + p) = s_pt φ r p) ∧
  (∀ i a b, 0 ≤ i → i < 3 → 0 ≤ a → a < 4 → 0 ≤ b → b < 4 → S 152 (16 * i + 4 * a + b) = s_rt φ a b (w_h i)) ∧ (S 153 3 = φ 1 ∧ ∀ i, 0 ≤ i → i < 3 → S 153 i = φ (5 + w_h i)) ∧
  (∀ k, 0 ≤ k → k < φ 3 → w_A S φ k) ∧ (∀ k, 0 ≤ k → k < φ 4 → w_B S φ k) ∧ (∀ r, 4 ≤ r → r < 6 → s_pt φ r 3 = 0)
theorem w_pt {S : q_S} {φ : Int → Int} (H : w_R S φ) {r p : Int} (h0 : 0 ≤ r) (h1 : r < 4) (h2 : 0 ≤ p) (h3 : p < 4) : S 151 (4 * r + p) = s_pt φ r p := H.2.2.1 r p h0 h1 h2 h3
theorem w_pt0 {S : q_S} {φ : Int → Int} (H : w_R S φ) {r : Int} (h0 : 0 ≤ r) (h1 : r < 4) : S 151 (4 * r) = s_pt φ r 0 := by
  have h := H.2.2.1 r 0 h0 h1 (by decide) (by decide)
  rw [Int.add_zero] at h
  exact h
theorem w_rt {S : q_S} {φ : Int → Int} (H : w_R S φ) {i a b : Int} (i0 : 0 ≤ i) (i1 : i < 3) (a0 : 0 ≤ a) (a1 : a < 4) (b0 : 0 ≤ b) (b1 : b < 4) : S 152 (16 * i + 4 * a + b) = s_rt φ a b (w_h i) := H.2.2.2.1 i a b i0 i1 a0 a1 b0 b1
theorem w_w3 {S : q_S} {φ : Int → Int} (H : w_R S φ) : S 153 3 = φ 1 := H.2.2.2.2.1.1
theorem w_wi {S : q_S} {φ : Int → Int} (H : w_R S φ) {i : Int} (i0 : 0 ≤ i) (i1 : i < 3) : S 153 i = φ (5 + w_h i) := H.2.2.2.2.1.2 i i0 i1
theorem w_q0 {S : q_S} {φ : Int → Int} (H : w_R S φ) : S 150 0 = φ 3 := H.2.1.1
theorem w_q1 {S : q_S} {φ : Int → Int} (H : w_R S φ) : S 150 1 = φ 4 := H.2.1.2.1
theorem w_q2 {S : q_S} {φ : Int → Int} (H : w_R S φ) : S 150 2 = φ 2 := H.2.1.2.2
theorem w_as {S : q_S} {φ : Int → Int} (H : w_R S φ) {k : Int} (h0 : 0 ≤ k) (h1 : k < φ 3) : w_A S φ k := H.2.2.2.2.2.1 k h0 h1
theorem w_bd {S : q_S} {φ : Int → Int} (H : w_R S φ) {k : Int} (h0 : 0 ≤ k) (h1 : k < φ 4) : w_B S φ k := H.2.2.2.2.2.2.1 k h0 h1
theorem w_as0 {S : q_S} {φ : Int → Int} (H : w_R S φ) {k : Int} (h0 : 0 ≤ k) (h1 : k < φ 3) : S 154 (4 * k) = s_as φ k 0 := (w_as H h0 h1).1
theorem w_as2 {S : q_S} {φ : Int → Int} (H : w_R S φ) {k : Int} (h0 : 0 ≤ k) (h1 : k < φ 3) : S 154 (4 * k + 2) = s_as φ k 2 := (w_as H h0 h1).2.2.1
theorem w_as3 {S : q_S} {φ : Int → Int} (H : w_R S φ) {k : Int} (h0 : 0 ≤ k) (h1 : k < φ 3) : S 154 (4 * k + 3) = s_as φ k 3 := (w_as H h0 h1).2.2.2.1
theorem w_bd0 {S : q_S} {φ : Int → Int} (H : w_R S φ) {k : Int} (h0 : 0 ≤ k) (h1 : k < φ 4) : S 155 (5 * k) = s_bd φ k 0 := (w_bd H h0 h1).1
theorem w_bd2 {S : q_S} {φ : Int → Int} (H : w_R S φ) {k : Int} (h0 : 0 ≤ k) (h1 : k < φ 4) : S 155 (5 * k + 2) = s_bd φ k 2 := (w_bd H h0 h1).2.2.1
theorem w_bd3 {S : q_S} {φ : Int → Int} (H : w_R S φ) {k : Int} (h0 : 0 ≤ k) (h1 : k < φ 4) : S 155 (5 * k + 3) = s_bd φ k 3 := (w_bd H h0 h1).2.2.2.1
theorem w_bd4 {S : q_S} {φ : Int → Int} (H : w_R S φ) {k : Int} (h0 : 0 ≤ k) (h1 : k < φ 4) : S 155 (5 * k + 4) = s_bd φ k 4 := (w_bd H h0 h1).2.2.2.2.1
theorem w_R_off {S S2 : q_S} {φ : Int → Int} (H : w_R S φ) (h : ∀ a : Nat, 150 ≤ a → S2 a = S a) : w_R S2 φ := by
  unfold w_R w_A w_B at H ⊢
  rw [h 150 (by decide), h 151 (by decide), h 152 (by decide), h 153 (by decide), h 154 (by decide), h 155 (by decide)]
  exact H
theorem w_kle {k s : Int} (h0 : 0 ≤ k) (h1 : 1 ≤ s) : k ≤ k * s := by
  have h := Int.mul_le_mul_of_nonneg_left h1 h0
  rw [Int.mul_one] at h
  exact h
theorem w_ceil {k s d : Int} (s1 : 1 ≤ s) (h1 : 2 * d ≤ k * s) (h2 : k * s < 2 * d + s) : (2 * d + s - 1) / s = k := by
  have a : (2 * d + s - 1) / s < k + 1 := Int.ediv_lt_of_lt_mul (by omega) (by rw [Int.add_mul, Int.one_mul]; omega)
  have b : k ≤ (2 * d + s - 1) / s := Int.le_ediv_of_mul_le (by omega) (by omega)
  omega
/-- how much the law makes of who is to blame so far -/
def w_wo (φ : Int → Int) (r : Int) (x : Int × Int) : Int := if x.2 = 0 then 0 else 1000 * x.2 + 500 - s_far φ x.1 r
theorem w_bN {φ : Int → Int} (ok : s_ok φ) {r h k v : Int} (r0 : 0 ≤ r) (r1 : r < 6) (h0 : 0 ≤ h) (h1 : h < 10) (k0 : 0 ≤ k) (k1 : k < φ 0) (hv : v = if s_up φ r h k = 0 then 0 else 1000 * s_up φ r h k + 500 - s_far φ k r) :
    (w_wo φ r (s_bN φ r h k.toNat) < v → (s_bN φ r h (k + 1).toNat).1 = k ∧ w_wo φ r (s_bN φ r h (k + 1).toNat) = v) ∧ (v ≤ w_wo φ r (s_bN φ r h k.toNat) → s_bN φ r h (k + 1).toNat = s_bN φ r h k.toNat) := by
  have hr := s_rows_b ok
  have u := s_up_b ok (a := k) (r := r) (h := h) k0 (by omega) r0 r1 h0 h1
  have f := s_far_b ok (a := k) (b := r) k0 (by omega) r0 r1
  have b := s_bN_b ok r0 r1 h0 h1 k.toNat (by omega)
  have hx : ((s_bN φ r h k.toNat).1 = -6 ∧ (s_bN φ r h k.toNat).2 = 0) ∨ (0 < (s_bN φ r h k.toNat).2 ∧ 0 ≤ s_far φ (s_bN φ r h k.toNat).1 r ∧ s_far φ (s_bN φ r h k.toNat).1 r ≤ 200) := by
    rcases b.2 with q | q
    · exact Or.inl q
    · have g := s_far_b ok (a := (s_bN φ r h k.toNat).1) (b := r) q.1 (by omega) r0 r1
      exact Or.inr ⟨q.2.2.1, g.1, g.2⟩
  have b1 := b.1
  rw [s_bN_s k0]
  generalize s_bN φ r h k.toNat = x at hx b1 ⊢
  have e : w_wo φ r x < v ↔ s_more φ r k (s_up φ r h k) x.1 x.2 := by
    unfold w_wo s_more
    omega
  refine ⟨fun g => ?_, fun g => ?_⟩
  · have m := e.mp g
    rw [q_if_t m, q_if_t m]
    refine ⟨rfl, ?_⟩
    rw [hv]
    rfl
  · have m : ¬ s_more φ r k (s_up φ r h k) x.1 x.2 := fun q => by have := e.mpr q; omega
    rw [q_if_f m, q_if_f m]
/-- two numbers that are the same -/
theorem w_icmp_eq {Γ : q_G} {M : q_M} {d bc bs pc pc' tgt : Nat} {L : List (Nat × Value)} {st : List Value} {w : q_W} {Q : Option Value → q_W → Prop} {a : Int} {off : Int} (hd : decode M.2.1 pc = .ok (.if_icmp .eq off, 3)) (ht : (pc : Int) + off = (tgt : Int)) (hp : pc + 3 = pc') (k : q_Go Γ M d bc bs tgt L st w Q) : q_Go Γ M d bc bs pc L (q_i a :: q_i a :: st) w Q := by
  have e : q_i (s_wr a) = q_i a := by unfold q_i s_wr; rw [q_ot]
  rw [← e]
  exact q_icmp_eq hd ht hp (s_wr_rg a) (s_wr_rg a) (fun _ => k) (fun h => absurd rfl h)
theorem w_icmp_ne {Γ : q_G} {M : q_M} {d bc bs pc pc' tgt : Nat} {L : List (Nat × Value)} {st : List Value} {w : q_W} {Q : Option Value → q_W → Prop} {a : Int} {off : Int} (hd : decode M.2.1 pc = .ok (.if_icmp .ne off, 3)) (ht : (pc : Int) + off = (tgt : Int)) (hp : pc + 3 = pc') (k : q_Go Γ M d bc bs pc' L st w Q) : q_Go Γ M d bc bs pc L (q_i a :: q_i a :: st) w Q := by
  have e : q_i (s_wr a) = q_i a := by unfold q_i s_wr; rw [q_ot]
  rw [← e]
  exact q_icmp_ne hd ht hp (s_wr_rg a) (s_wr_rg a) (fun h => absurd rfl h) (fun _ => k)
theorem w_wo_b {φ : Int → Int} (ok : s_ok φ) {r h : Int} {n : Nat} (r0 : 0 ≤ r) (r1 : r < 6) (h0 : 0 ≤ h) (h1 : h < 10) (hn : (n : Int) ≤ φ 0) : 0 ≤ w_wo φ r (s_bN φ r h n) ∧ w_wo φ r (s_bN φ r h n) ≤ 100000 := by
  have hr := s_rows_b ok
  have b := s_bN_b ok r0 r1 h0 h1 n hn
  unfold w_wo
  rcases b.2 with q | q
  · rw [if_pos q.2]; omega
  · have g := s_far_b ok (a := (s_bN φ r h n).1) (b := r) q.1 (by omega) r0 r1
    rw [if_neg (by omega)]
    omega
