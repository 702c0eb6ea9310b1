/-! the light of an hour -/
def s_lss (φ : Int → Int) (a b h : Int) : Int := if 0 < s_dist φ a b h then s_loss φ a b h else 1000
theorem s_lss_b {φ : Int → Int} (ok : s_ok φ) {a b h : Int} (ha0 : 0 ≤ a) (ha : a < 6) (hb0 : 0 ≤ b) (hb : b < 6) (h0 : 0 ≤ h) (h1 : h < 10) : 0 ≤ s_lss φ a b h ∧ s_lss φ a b h ≤ 1000 := by
  unfold s_lss
  split
  · have := s_loss_b ok ha0 ha hb0 hb h0 h1 (by assumption)
    omega
  · omega
theorem s_sh_lss {φ : Int → Int} (ok : s_ok φ) {a t b h : Int} (ha0 : 0 ≤ a) (ha : a < 6) (ht0 : 0 ≤ t) (ht : t ≤ 4) : s_sh φ a t b h = max 0 (s_pt φ a 1 * t - s_lss φ a b h) := by
  have h2 := (s_pt_b ok ha0 ha).2.1
  have h3 := q_mulb h2.1 h2.2 ht0 ht
  unfold s_sh s_lss
  by_cases q : s_dist φ a b h ≤ 0
  · rw [if_pos q, if_neg (by omega)]; omega
  · rw [if_neg q, if_pos (by omega)]
/-- how high a row may be: the least of what its rights allow -/
def s_alN (φ : Int → Int) (r h : Int) : Nat → Int
  | 0 => 1000
  | n + 1 => if (n : Int) = r then s_alN φ r h n else min (s_alN φ r h n) (s_rt φ r n h + s_lss φ r n h)
theorem s_alN_t {φ : Int → Int} {r h k : Int} (h0 : 0 ≤ k) (e : k = r) : s_alN φ r h (k + 1).toNat = s_alN φ r h k.toNat := by
  obtain ⟨n, rfl⟩ : ∃ n : Nat, k = n := ⟨k.toNat, by omega⟩
  rw [show ((n : Int) + 1).toNat = n + 1 by omega, Int.toNat_natCast]
  exact if_pos e
theorem s_alN_f {φ : Int → Int} {r h k : Int} (h0 : 0 ≤ k) (e : k ≠ r) : s_alN φ r h (k + 1).toNat = min (s_alN φ r h k.toNat) (s_rt φ r k h + s_lss φ r k h) := by
  obtain ⟨n, rfl⟩ : ∃ n : Nat, k = n := ⟨k.toNat, by omega⟩
  rw [show ((n : Int) + 1).toNat = n + 1 by omega, Int.toNat_natCast]
  exact if_neg e
theorem s_alN_le {φ : Int → Int} {r h x : Int} (n : Nat) : x ≤ s_alN φ r h n ↔ x ≤ 1000 ∧ ∀ b : Int, 0 ≤ b → b < n → b = r ∨ x ≤ s_rt φ r b h + s_lss φ r b h := by
  induction n with
  | zero => exact ⟨fun q => ⟨q, fun b b0 b1 => by omega⟩, fun q => q.1⟩
  | succ n ih =>
    by_cases e : (n : Int) = r
    · rw [show s_alN φ r h (n + 1) = s_alN φ r h n from if_pos e, ih]
      exact ⟨fun q => ⟨q.1, fun b b0 b1 => by
        rcases (show b < n ∨ b = r by omega) with g | g
        · exact q.2 b b0 g
        · exact Or.inl g⟩, fun q => ⟨q.1, fun b b0 b1 => q.2 b b0 (by omega)⟩⟩
    · rw [show s_alN φ r h (n + 1) = min (s_alN φ r h n) (s_rt φ r n h + s_lss φ r n h) from if_neg e]
      constructor
      · intro q
        have q1 := ih.mp (show x ≤ s_alN φ r h n by omega)
        refine ⟨q1.1, fun b b0 b1 => ?_⟩
        rcases (show b < n ∨ b = n by omega) with g | g
        · exact q1.2 b b0 g
        · subst g; exact Or.inr (by omega)
      · intro q
        have q1 := ih.mpr ⟨q.1, fun b b0 b1 => q.2 b b0 (by omega)⟩
        have q2 := (q.2 n (by omega) (by omega)).resolve_left e
        omega
theorem s_alN_b {φ : Int → Int} (ok : s_ok φ) {r h : Int} (r0 : 0 ≤ r) (r1 : r < 6) (h0 : 0 ≤ h) (h1 : h < 10) (n : Nat) (hn : n ≤ 6) : 0 ≤ s_alN φ r h n ∧ s_alN φ r h n ≤ 1000 := by
  constructor
  · refine (s_alN_le n).mpr ⟨by decide, fun b b0 b1 => Or.inr ?_⟩
    have q1 := s_rt_b ok r0 r1 b0 (show b < 6 by omega) h0 h1
    have q2 := s_lss_b ok r0 r1 b0 (show b < 6 by omega) h0 h1
    omega
  · exact ((s_alN_le n).mp (Int.le_refl _)).1
noncomputable def s_lim (φ : Int → Int) (r h : Int) : Int := q_if (s_flat φ h) 0 (s_dn (fun t => s_pt φ r 1 * t ≤ s_alN φ r h (φ 0).toNat) 4)
theorem s_lim_b {φ : Int → Int} {r h : Int} : 0 ≤ s_lim φ r h ∧ s_lim φ r h ≤ 4 := by
  have q := s_dn_b (fun t => s_pt φ r 1 * t ≤ s_alN φ r h (φ 0).toNat) 4
  by_cases f : s_flat φ h
  · rw [show s_lim φ r h = 0 from q_if_t f]; omega
  · rw [show s_lim φ r h = s_dn (fun t => s_pt φ r 1 * t ≤ s_alN φ r h (φ 0).toNat) 4 from q_if_f f]; exact q
theorem s_dn_all {P : Int → Prop} (n : Nat) (h : n = 0 ∨ P n) : s_dn P n = n := by
  cases n with
  | zero => rfl
  | succ n => exact q_if_t (h.resolve_left (by omega))
theorem s_dn_min {P : Int → Prop} (hP : ∀ t : Int, 0 < t → P (t + 1) → P t) (n k : Nat) : s_dn P n = min (n : Int) (s_dn P (n + k)) := by
  induction k with
  | zero => have := s_dn_b P n; rw [Nat.add_zero]; omega
  | succ k ih =>
    by_cases q : P (((n + k : Nat) : Int) + 1)
    · have hd : ∀ m : Nat, m ≤ n + k → P (((n + k - m : Nat) : Int) + 1) := by
        intro m
        induction m with
        | zero => intro _; exact q
        | succ m ihm =>
          intro hm
          have := ihm (by omega)
          refine hP _ (by omega) ?_
          rw [show ((n + k - (m + 1) : Nat) : Int) + 1 + 1 = ((n + k - m : Nat) : Int) + 1 by omega]
          exact this
      have e : s_dn P n = n := by
        refine s_dn_all n ?_
        rcases (show n = 0 ∨ 0 < n by omega) with g | g
        · exact Or.inl g
        · have := hd (k + 1) (by omega)
          rw [show ((n + k - (k + 1) : Nat) : Int) + 1 = n by omega] at this
          exact Or.inr this
      rw [e, show s_dn P (n + (k + 1)) = ((n + k : Nat) : Int) + 1 from q_if_t q]
      omega
    · rw [show s_dn P (n + (k + 1)) = s_dn P (n + k) from q_if_f q]
      exact ih
theorem s_dn_congr {P R : Int → Prop} (n : Nat) (h : ∀ t : Int, 0 < t → t ≤ n → (P t ↔ R t)) : s_dn P n = s_dn R n := by
  induction n with
  | zero => rfl
  | succ n ih =>
    have h1 := ih (fun t t0 t1 => h t t0 (by omega))
    have h2 := h ((n : Int) + 1) (by omega) (by omega)
    by_cases q : P ((n : Int) + 1)
    · rw [show s_dn P (n + 1) = (n : Int) + 1 from q_if_t q, show s_dn R (n + 1) = (n : Int) + 1 from q_if_t (h2.mp q)]
    · rw [show s_dn P (n + 1) = s_dn P n from q_if_f q, show s_dn R (n + 1) = s_dn R n from q_if_f (fun g => q (h2.mpr g)), h1]
theorem s_keeps_al {φ : Int → Int} (ok : s_ok φ) {r t h : Int} (r0 : 0 ≤ r) (r1 : r < 6) (t0 : 0 ≤ t) (t1 : t ≤ 4) (h0 : 0 ≤ h) (h1 : h < 10) : s_keeps φ r t h ↔ s_pt φ r 1 * t ≤ s_alN φ r h (φ 0).toNat := by
  have rw0 := s_rows_b ok
  have h2 := (s_pt_b ok r0 r1).2.1
  have h3 := q_mulb h2.1 h2.2 t0 t1
  rw [s_alN_le]
  constructor
  · intro q
    refine ⟨by omega, fun b b0 b1 => ?_⟩
    rcases q b b0 (by omega) with g | g
    · exact Or.inl g
    · rw [s_sh_lss ok r0 r1 t0 t1] at g
      exact Or.inr (by omega)
  · intro q b b0 b1
    rcases q.2 b b0 (by omega) with g | g
    · exact Or.inl g
    · rw [s_sh_lss ok r0 r1 t0 t1]
      have := s_rt_b ok r0 r1 b0 (show b < 6 by omega) h0 h1
      exact Or.inr (by omega)
theorem s_ti_lim {φ : Int → Int} (ok : s_ok φ) {r own h : Int} (r0 : 0 ≤ r) (r1 : r < 6) (o0 : 0 ≤ own) (o1 : own ≤ 4) (h0 : 0 ≤ h) (h1 : h < 10) : s_ti φ r own h = min own (s_lim φ r h) := by
  have h2 := (s_pt_b ok r0 r1).2.1
  by_cases f : s_flat φ h
  · rw [show s_ti φ r own h = 0 from q_if_t f, show s_lim φ r h = 0 from q_if_t f]; omega
  · rw [show s_ti φ r own h = s_dn (fun t => s_keeps φ r t h) own.toNat from q_if_f f, show s_lim φ r h = s_dn (fun t => s_pt φ r 1 * t ≤ s_alN φ r h (φ 0).toNat) 4 from q_if_f f]
    rw [s_dn_congr (R := fun t => s_pt φ r 1 * t ≤ s_alN φ r h (φ 0).toNat) own.toNat (fun t t0 t1 => s_keeps_al ok r0 r1 (by omega) (by omega) h0 h1)]
    have q := s_dn_min (P := fun t => s_pt φ r 1 * t ≤ s_alN φ r h (φ 0).toNat) (fun t t0 g => by
      have : s_pt φ r 1 * (t + 1) = s_pt φ r 1 * t + s_pt φ r 1 := by rw [Int.mul_add, Int.mul_one]
      show s_pt φ r 1 * t ≤ _
      have g2 : s_pt φ r 1 * (t + 1) ≤ s_alN φ r h (φ 0).toNat := g
      omega) own.toNat (4 - own.toNat)
    rw [show own.toNat + (4 - own.toNat) = 4 by omega, Int.toNat_of_nonneg o0] at q
    exact q
/-- the light holds the hour h -/
def s_lk (S : q_S) (φ : Int → Int) (h : Int) : Prop := S 14 1 = h ∧ (∀ a b, 0 ≤ a → a < φ 0 → 0 ≤ b → b < φ 0 → S 15 (6 * a + b) = s_lss φ a b h) ∧ ∀ a, 0 ≤ a → a < φ 0 → S 16 a = s_lim φ a h ∧ S 17 a = s_he φ a h
def s_offL (S S2 : q_S) : Prop := ∀ a, (a < 14 ∨ 18 < a) → S2 a = S a
theorem s_offL_r {S : q_S} : s_offL S S := fun _ _ => rfl
theorem s_offL_u {S S2 : q_S} {c : Nat} {z v : Int} (h : s_offL S S2) (h0 : 14 ≤ c) (h1 : c ≤ 18) : s_offL S (q_up S2 c z v) := fun a ha => (q_up_ne (by omega)).trans (h a ha)
theorem s_offL_t {S S2 S3 : q_S} (h : s_offL S S2) (h2 : s_offL S2 S3) : s_offL S S3 := fun a ha => (h2 a ha).trans (h a ha)
theorem s_F_L {S S2 : q_S} {φ : Int → Int} (F : s_F S 1 φ) (h : s_offL S S2) : s_F S2 1 φ := s_F_o F (fun a h1 h2 _ => h a (by omega))
theorem s_tab0 {Γ : q_G} {h : Int} (h0 : 0 ≤ h) (h1 : h < 10) : (q_tab Γ 0).2 h.toNat = s_slope h := by
  rcases (show h = 0 ∨ h = 1 ∨ h = 2 ∨ h = 3 ∨ h = 4 ∨ h = 5 ∨ h = 6 ∨ h = 7 ∨ h = 8 ∨ h = 9 by omega) with rfl | rfl | rfl | rfl | rfl | rfl | rfl | rfl | rfl | rfl <;> rfl
theorem s_tab1 {Γ : q_G} {h : Int} (h0 : 0 ≤ h) (h1 : h < 10) : (q_tab Γ 1).2 h.toNat = s_sun h := by
  rcases (show h = 0 ∨ h = 1 ∨ h = 2 ∨ h = 3 ∨ h = 4 ∨ h = 5 ∨ h = 6 ∨ h = 7 ∨ h = 8 ∨ h = 9 by omega) with rfl | rfl | rfl | rfl | rfl | rfl | rfl | rfl | rfl | rfl <;> rfl
