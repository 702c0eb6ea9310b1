theorem p_eq {Γ : q_G} {M : q_M} {d bc bs pc : Nat} {L : List (Nat × Value)} {st : List Value} {w : q_W} {Q : Option Value → q_W → Prop} {z y : Int} (h : z = y) (k : q_Go Γ M d bc bs pc L (q_i y :: st) w Q) : q_Go Γ M d bc bs pc L (q_i z :: st) w Q := by
  rw [h]
  exact k
/-- the light holds the rows before n in the hour h -/
def s_lkN (S : q_S) (φ : Int → Int) (h n : Int) : Prop := ∀ a, 0 ≤ a → a < n → (∀ b, 0 ≤ b → b < φ 0 → S 15 (6 * a + b) = s_lss φ a b h) ∧ S 16 a = s_lim φ a h ∧ S 17 a = s_he φ a h
theorem s_lkN_15 {S : q_S} {φ : Int → Int} {h n b v : Int} (hr : φ 0 ≤ 6) (b0 : 0 ≤ b) (H : s_lkN S φ h n) : s_lkN (q_up S 15 (n * 6 + b) v) φ h n := fun a a0 a1 => by
  have q := H a a0 a1
  refine ⟨fun b' b0' b1' => ?_, ?_, ?_⟩
  · rw [q_up_nz (by omega)]; exact q.1 b' b0' b1'
  · rw [q_up_ne (by decide)]; exact q.2.1
  · rw [q_up_ne (by decide)]; exact q.2.2
theorem s_lkN_s {S : q_S} {φ : Int → Int} {h n : Int} (H : s_lkN S φ h n) (HB : ∀ b, 0 ≤ b → b < φ 0 → S 15 (6 * n + b) = s_lss φ n b h) : s_lkN (q_up (q_up S 16 n (s_lim φ n h)) 17 n (s_he φ n h)) φ h (n + 1) := fun a a0 a1 => by
  rcases (show a < n ∨ a = n by omega) with g | g
  · have q := H a a0 g
    refine ⟨fun b' b0' b1' => ?_, ?_, ?_⟩
    · rw [q_up_ne (by decide), q_up_ne (by decide)]; exact q.1 b' b0' b1'
    · rw [q_up_nz (by omega), q_up_nz (by omega)]; exact q.2.1
    · rw [q_up_nz (by omega), q_up_ne (by decide)]; exact q.2.2
  · subst g
    refine ⟨fun b' b0' b1' => ?_, ?_, ?_⟩
    · rw [q_up_ne (by decide), q_up_ne (by decide)]; exact HB b' b0' b1'
    · rw [q_up_ne (by decide), q_up_eq]
    · rw [q_up_eq]
theorem s_lkN_lk {S : q_S} {φ : Int → Int} {h : Int} (hH : S 14 1 = h) (H : s_lkN S φ h (φ 0)) : s_lk S φ h := ⟨hH, fun a b a0 a1 b0 b1 => (H a a0 a1).1 b b0 b1, fun a a0 a1 => (H a a0 a1).2⟩
theorem s_si_lss {φ : Int → Int} (ok : s_ok φ) {a b h : Int} (a0 : 0 ≤ a) (a1 : a < 6) : max 0 (s_he φ a h - s_lss φ a b h) = s_si φ a b h := by
  have t := s_tio_b ok h a0 a1
  exact (s_sh_lss ok a0 a1 t.1 t.2).symm
theorem s_far_d {φ : Int → Int} {a r h : Int} (q : 0 < s_up φ r h a) : s_far φ a r = s_dist φ a r h := by
  have hd : 0 < s_dist φ a r h := by
    unfold s_up at q
    split at q
    · omega
    · unfold s_si s_sh at q
      split at q
      · omega
      · omega
  unfold s_dist at hd ⊢
  unfold s_far
  omega
def s_offK (S S2 : q_S) : Prop := ∀ a, (a < 14 ∨ 17 < a) → S2 a = S a
theorem s_offK_r {S : q_S} : s_offK S S := fun _ _ => rfl
theorem s_offK_u {S S2 : q_S} {c : Nat} {z v : Int} (h : s_offK S S2) (h0 : 14 ≤ c) (h1 : c ≤ 17) : s_offK S (q_up S2 c z v) := fun a ha => (q_up_ne (by omega)).trans (h a ha)
theorem s_offK_L {S S2 : q_S} (h : s_offK S S2) : s_offL S S2 := fun a ha => h a (by omega)
theorem s_F_K {S S2 : q_S} {φ : Int → Int} (F : s_F S 1 φ) (h : s_offK S S2) : s_F S2 1 φ := s_F_L F (s_offK_L h)
theorem q_sum_add {f g : Int → Int} (n : Nat) : q_sum (fun k => f k + g k) n = q_sum f n + q_sum g n := by
  induction n with
  | zero => rfl
  | succ n ih =>
    show q_sum (fun k => f k + g k) n + (f n + g n) = q_sum f n + f n + (q_sum g n + g n)
    omega
theorem q_sum_swap {f : Int → Int → Int} (m n : Nat) : q_sum (fun h => q_sum (fun r => f r h) n) m = q_sum (fun r => q_sum (f r) m) n := by
  induction m with
  | zero =>
    show 0 = q_sum (fun r => 0) n
    induction n with
    | zero => rfl
    | succ n ih => show (0 : Int) = q_sum (fun r => 0) n + 0; omega
  | succ m ih =>
    show q_sum (fun h => q_sum (fun r => f r h) n) m + q_sum (fun r => f r m) n = q_sum (fun r => q_sum (f r) m + f r m) n
    rw [q_sum_add, ih]
theorem s_blh_0 {φ : Int → Int} (ok : s_ok φ) {r a : Int} (r0 : 0 ≤ r) (r1 : r < 6) (ha : φ 0 ≤ a) : s_blh φ r a = 0 := by
  have rw0 := s_rows_b ok
  have e : s_blh φ r a = q_sum (fun _ => 0) 10 := q_sum_c (fun k k0 k1 => by
    have b := s_bl_b ok r0 r1 k0 (show k < 10 by omega)
    exact q_B_f (by omega))
  rw [e]; rfl
theorem s_mbN_6 {φ : Int → Int} (ok : s_ok φ) {r : Int} (r0 : 0 ≤ r) (r1 : r < 6) (k : Nat) : s_mbN φ r ((φ 0).toNat + k) = s_mbN φ r (φ 0).toNat := by
  have rw0 := s_rows_b ok
  induction k with
  | zero => rfl
  | succ k ih =>
    have b := s_mbN_b (φ := φ) (r := r) ((φ 0).toNat + k)
    have z := s_blh_0 ok r0 r1 (a := (((φ 0).toNat + k : Nat) : Int)) (by omega)
    have n : ¬ (s_mbN φ r ((φ 0).toNat + k)).2 < s_blh φ r (((φ 0).toNat + k : Nat) : Int) := by omega
    rw [← ih]
    exact Prod.ext (q_if_f n) (q_if_f n)
/-- the row with the most hours of blame, of the rows before k, as it is looked for in the counts -/
def s_mst (φ : Int → Int) (r m : Int) (k : Nat) : Prop := 0 ≤ m ∧ m < 6 ∧ ((s_mbN φ r k = (-6, 0) ∧ m = 0 ∧ s_blh φ r 0 = 0) ∨ (s_mbN φ r k = (m, s_blh φ r m) ∧ 0 < s_blh φ r m))
theorem s_mst_1 {φ : Int → Int} {r : Int} : s_mst φ r 0 1 := by
  have b := s_blh_b (φ := φ) r 0
  refine ⟨by decide, by decide, ?_⟩
  have e : s_mbN φ r 1 = (q_if (0 < s_blh φ r 0) 0 (-6), q_if (0 < s_blh φ r 0) (s_blh φ r 0) 0) := rfl
  by_cases h : 0 < s_blh φ r 0
  · rw [q_if_t h, q_if_t h] at e; exact Or.inr ⟨e, h⟩
  · rw [q_if_f h, q_if_f h] at e; exact Or.inl ⟨e, rfl, by omega⟩
theorem s_mst_t {φ : Int → Int} {r m k : Int} (H : s_mst φ r m k.toNat) (k0 : 0 ≤ k) (k6 : k < 6) (h : s_blh φ r m < s_blh φ r k) : s_mst φ r k (k + 1).toNat := by
  have b := s_blh_b (φ := φ) r m
  refine ⟨k0, k6, Or.inr ⟨?_, by omega⟩⟩
  rw [s_mbN_s k0]
  rcases H.2.2 with ⟨e, em, ez⟩ | ⟨e, ep⟩
  · rw [e]
    have q : (0 : Int) < s_blh φ r k := by rw [em, ez] at h; exact h
    exact Prod.ext (q_if_t q) (q_if_t q)
  · rw [e]
    exact Prod.ext (q_if_t h) (q_if_t h)
theorem s_mst_f {φ : Int → Int} {r m k : Int} (H : s_mst φ r m k.toNat) (k0 : 0 ≤ k) (h : ¬ s_blh φ r m < s_blh φ r k) : s_mst φ r m (k + 1).toNat := by
  refine ⟨H.1, H.2.1, ?_⟩
  rw [s_mbN_s k0]
  rcases H.2.2 with ⟨e, em, ez⟩ | ⟨e, ep⟩
  · rw [e]
    have q : ¬ (0 : Int) < s_blh φ r k := by rw [em, ez] at h; exact h
    exact Or.inl ⟨Prod.ext (q_if_f q) (q_if_f q), em, ez⟩
  · rw [e]
    exact Or.inr ⟨Prod.ext (q_if_f h) (q_if_f h), ep⟩
