/-! what a field of rows is, as a function φ of places (the reference's one row of numbers), and what is asked of it -/
theorem q_mulb {a b A B : Int} (h0 : 0 ≤ a) (h1 : a ≤ A) (h2 : 0 ≤ b) (h3 : b ≤ B) : 0 ≤ a * b ∧ a * b ≤ A * B :=
  ⟨Int.mul_nonneg h0 h2, Int.mul_le_mul h1 h3 h2 (by omega)⟩
noncomputable def q_if (P : Prop) (x y : Int) : Int := @ite Int P (Classical.propDecidable P) x y
theorem q_if_t {P : Prop} {x y : Int} (h : P) : q_if P x y = x := if_pos h
theorem q_if_f {P : Prop} {x y : Int} (h : ¬ P) : q_if P x y = y := if_neg h
def q_sum (f : Int → Int) : Nat → Int
  | 0 => 0
  | n + 1 => q_sum f n + f n
theorem q_sum_s {f : Int → Int} {k : Int} (h : 0 ≤ k) : q_sum f (k + 1).toNat = q_sum f k.toNat + f k := by
  rw [show (k + 1).toNat = k.toNat + 1 by omega]
  show _ + f (k.toNat : Int) = _
  rw [Int.toNat_of_nonneg h]
theorem q_sum_c {f g : Int → Int} {n : Nat} (h : ∀ k : Int, 0 ≤ k → k < n → f k = g k) : q_sum f n = q_sum g n := by
  induction n with
  | zero => rfl
  | succ n ih =>
    show q_sum f n + f n = q_sum g n + g n
    rw [ih (fun k h0 h1 => h k h0 (by omega)), h n (by omega) (by omega)]
theorem q_sum_b {f : Int → Int} {n : Nat} {A : Int} (h : ∀ k : Int, 0 ≤ k → k < n → 0 ≤ f k ∧ f k ≤ A) : 0 ≤ q_sum f n ∧ q_sum f n ≤ A * n := by
  induction n with
  | zero => exact ⟨by simp [q_sum], by simp [q_sum]⟩
  | succ n ih =>
    have h1 := ih (fun k h0 h1 => h k h0 (by omega))
    have h2 := h n (by omega) (by omega)
    have e : A * ((n + 1 : Nat) : Int) = A * n + A := by rw [Int.natCast_succ, Int.mul_add, Int.mul_one]
    show 0 ≤ q_sum f n + f n ∧ q_sum f n + f n ≤ A * ((n + 1 : Nat) : Int)
    rw [e]
    omega
def s_pt (φ : Int → Int) (r p : Int) : Int := φ (15 + 4 * r + p)
def s_rt (φ : Int → Int) (a b h : Int) : Int := φ (39 + 10 * (6 * a + b) + h)
def s_as (φ : Int → Int) (i p : Int) : Int := φ (399 + 4 * i + p)
def s_bd (φ : Int → Int) (i p : Int) : Int := φ (439 + 5 * i + p)
/-- all numbers where they must be -/
def s_ok (φ : Int → Int) : Prop := (0 ≤ φ 0 ∧ φ 0 ≤ 6) ∧ (1 ≤ φ 1 ∧ φ 1 ≤ 10) ∧ (0 ≤ φ 3 ∧ φ 3 ≤ 10) ∧ (0 ≤ φ 4 ∧ φ 4 ≤ 10) ∧ (∀ h, 0 ≤ h → h < 10 → 0 ≤ φ (5 + h) ∧ φ (5 + h) ≤ 9) ∧
  (∀ r, 0 ≤ r → r < 6 → (0 ≤ s_pt φ r 0 ∧ s_pt φ r 0 ≤ 200) ∧ (0 ≤ s_pt φ r 1 ∧ s_pt φ r 1 ≤ 20) ∧ (0 ≤ s_pt φ r 2 ∧ s_pt φ r 2 ≤ 4)) ∧
  (∀ a b h, 0 ≤ a → a < 6 → 0 ≤ b → b < 6 → 0 ≤ h → h < 10 → 0 ≤ s_rt φ a b h ∧ s_rt φ a b h ≤ 999) ∧
  (∀ i, 0 ≤ i → i < 10 → (0 ≤ s_as φ i 0 ∧ s_as φ i 0 ≤ 5) ∧ (0 ≤ s_as φ i 1 ∧ s_as φ i 1 ≤ 9) ∧ (0 ≤ s_as φ i 2 ∧ s_as φ i 2 ≤ 200) ∧ (0 ≤ s_as φ i 3 ∧ s_as φ i 3 ≤ 999)) ∧
  (∀ i, 0 ≤ i → i < 10 → (0 ≤ s_bd φ i 0 ∧ s_bd φ i 0 ≤ 5) ∧ (0 ≤ s_bd φ i 1 ∧ s_bd φ i 1 ≤ 9) ∧ (0 ≤ s_bd φ i 2 ∧ s_bd φ i 2 ≤ 200) ∧ (0 ≤ s_bd φ i 3 ∧ s_bd φ i 3 ≤ 999) ∧ (0 ≤ s_bd φ i 4 ∧ s_bd φ i 4 ≤ 5))
def s_slope (h : Int) : Int := if (if h < 5 then h else 9 - h) = 0 then 6 else 5 - (if h < 5 then h else 9 - h)
def s_sun (h : Int) : Int := if h < 5 then h + 1 else 10 - h
def s_dist (φ : Int → Int) (a b h : Int) : Int := if h < 5 then s_pt φ b 0 - s_pt φ a 0 else s_pt φ a 0 - s_pt φ b 0
def s_loss (φ : Int → Int) (a b h : Int) : Int := (2 * s_dist φ a b h + s_slope h - 1) / s_slope h
def s_sh (φ : Int → Int) (a t b h : Int) : Int := if s_dist φ a b h ≤ 0 then 0 else max 0 (s_pt φ a 1 * t - s_loss φ a b h)
def s_flat (φ : Int → Int) (h : Int) : Prop := φ 1 ≤ φ (5 + h)
def s_keeps (φ : Int → Int) (a t h : Int) : Prop := ∀ b, 0 ≤ b → b < φ 0 → b = a ∨ s_sh φ a t b h ≤ s_rt φ a b h
/-- the greatest number up to n, above 0, with P; 0 if there is none -/
noncomputable def s_dn (P : Int → Prop) : Nat → Int
  | 0 => 0
  | n + 1 => q_if (P ((n : Int) + 1)) ((n : Int) + 1) (s_dn P n)
theorem s_dn_b (P : Int → Prop) (n : Nat) : 0 ≤ s_dn P n ∧ s_dn P n ≤ n := by
  induction n with
  | zero => exact ⟨by simp [s_dn], by simp [s_dn]⟩
  | succ n ih =>
    by_cases h : P ((n : Int) + 1)
    · rw [show s_dn P (n + 1) = (n : Int) + 1 from q_if_t h]; omega
    · rw [show s_dn P (n + 1) = s_dn P n from q_if_f h]; omega
theorem s_dn_t {P : Int → Prop} {t : Int} (h0 : 0 < t) (h : P t) : s_dn P t.toNat = t := by
  obtain ⟨n, rfl⟩ : ∃ n : Nat, t = (n : Int) + 1 := ⟨(t - 1).toNat, by omega⟩
  rw [show ((n : Int) + 1).toNat = n + 1 by omega]
  exact q_if_t h
theorem s_dn_f {P : Int → Prop} {t : Int} (h0 : 0 < t) (h : ¬ P t) : s_dn P t.toNat = s_dn P (t - 1).toNat := by
  obtain ⟨n, rfl⟩ : ∃ n : Nat, t = (n : Int) + 1 := ⟨(t - 1).toNat, by omega⟩
  rw [show ((n : Int) + 1).toNat = n + 1 by omega, show ((n : Int) + 1 - 1).toNat = n by omega]
  exact q_if_f h
noncomputable def s_ti (φ : Int → Int) (r own h : Int) : Int := q_if (s_flat φ h) 0 (s_dn (fun t => s_keeps φ r t h) own.toNat)
theorem s_ti_b {φ : Int → Int} {r own h : Int} (h0 : 0 ≤ own) : 0 ≤ s_ti φ r own h ∧ s_ti φ r own h ≤ own := by
  have h1 := s_dn_b (fun t => s_keeps φ r t h) own.toNat
  by_cases hf : s_flat φ h
  · rw [show s_ti φ r own h = 0 from q_if_t hf]; omega
  · rw [show s_ti φ r own h = s_dn (fun t => s_keeps φ r t h) own.toNat from q_if_f hf]; omega
noncomputable def s_he (φ : Int → Int) (r h : Int) : Int := s_pt φ r 1 * s_ti φ r (s_pt φ r 2) h
noncomputable def s_si (φ : Int → Int) (a b h : Int) : Int := s_sh φ a (s_ti φ a (s_pt φ a 2) h) b h
def s_far (φ : Int → Int) (a b : Int) : Int := if s_pt φ a 0 - s_pt φ b 0 < 0 then -(s_pt φ a 0 - s_pt φ b 0) else s_pt φ a 0 - s_pt φ b 0
noncomputable def s_up (φ : Int → Int) (r h a : Int) : Int := if a = r then 0 else s_si φ a r h
def s_more (φ : Int → Int) (r a up best most : Int) : Prop := most < up ∨ (0 < up ∧ up = most ∧ s_far φ a r < s_far φ best r)
/-- the row to blame so far, and the height of its shadow -/
noncomputable def s_bN (φ : Int → Int) (r h : Int) : Nat → Int × Int
  | 0 => (-6, 0)
  | n + 1 => (q_if (s_more φ r n (s_up φ r h n) (s_bN φ r h n).1 (s_bN φ r h n).2) n (s_bN φ r h n).1, q_if (s_more φ r n (s_up φ r h n) (s_bN φ r h n).1 (s_bN φ r h n).2) (s_up φ r h n) (s_bN φ r h n).2)
noncomputable def s_bl (φ : Int → Int) (r h : Int) : Int := (s_bN φ r h (φ 0).toNat).1
noncomputable def s_shd (φ : Int → Int) (r h : Int) : Int := min (if s_bl φ r h = -6 then 0 else s_si φ (s_bl φ r h) r h) (s_he φ r h)
noncomputable def s_y (φ : Int → Int) (r h : Int) : Int := (s_he φ r h - s_shd φ r h) * s_sun h + s_pt φ r 1
noncomputable def s_yo (φ : Int → Int) (r : Int) : Int := q_sum (s_y φ r) 10
noncomputable def s_all (φ : Int → Int) : Int := q_sum (s_yo φ) (φ 0).toNat
def s_taken (φ : Int → Int) (p : Int) : Prop := ∃ r, 0 ≤ r ∧ r < φ 0 ∧ s_pt φ r 0 = p
noncomputable def s_full (φ : Int → Int) (r : Int) : Int := q_sum (fun h => s_he φ r h * s_sun h + s_pt φ r 1) 10
noncomputable def s_low (φ : Int → Int) (r : Int) : Int := q_sum (fun h => q_B (¬ s_flat φ h ∧ s_ti φ r (s_pt φ r 2) h < s_pt φ r 2)) 10
noncomputable def s_shh (φ : Int → Int) (r : Int) : Int := q_sum (fun h => q_B (0 < s_shd φ r h)) 10
noncomputable def s_blh (φ : Int → Int) (r a : Int) : Int := q_sum (fun h => q_B (s_bl φ r h = a)) 10
noncomputable def s_mbN (φ : Int → Int) (r : Int) : Nat → Int × Int
  | 0 => (-6, 0)
  | n + 1 => (q_if ((s_mbN φ r n).2 < s_blh φ r n) n (s_mbN φ r n).1, q_if ((s_mbN φ r n).2 < s_blh φ r n) (s_blh φ r n) (s_mbN φ r n).2)
noncomputable def s_mb (φ : Int → Int) (r : Int) : Int := (s_mbN φ r (φ 0).toNat).1
/-! how great they are -/
theorem s_slope_b {h : Int} (h0 : 0 ≤ h) (h1 : h < 10) : 1 ≤ s_slope h ∧ s_slope h ≤ 6 := by
  unfold s_slope
  repeat' split
  all_goals omega
theorem s_sun_b {h : Int} (h0 : 0 ≤ h) (h1 : h < 10) : 1 ≤ s_sun h ∧ s_sun h ≤ 5 := by
  unfold s_sun
  split <;> omega
theorem s_dist_b {φ : Int → Int} (ok : s_ok φ) {a b : Int} (h : Int) (ha0 : 0 ≤ a) (ha : a < 6) (hb0 : 0 ≤ b) (hb : b < 6) : -200 ≤ s_dist φ a b h ∧ s_dist φ a b h ≤ 200 := by
  obtain ⟨-, -, -, -, -, hr, -⟩ := ok
  have h1 := (hr a ha0 ha).1
  have h2 := (hr b hb0 hb).1
  unfold s_dist
  split <;> omega
theorem s_loss_b {φ : Int → Int} (ok : s_ok φ) {a b h : Int} (ha0 : 0 ≤ a) (ha : a < 6) (hb0 : 0 ≤ b) (hb : b < 6) (h0 : 0 ≤ h) (h1 : h < 10) (hd : 0 < s_dist φ a b h) : 0 ≤ s_loss φ a b h ∧ s_loss φ a b h ≤ 405 := by
  have h2 := s_dist_b ok h ha0 ha hb0 hb
  have h3 := s_slope_b h0 h1
  unfold s_loss
  have h4 : (2 * s_dist φ a b h + s_slope h - 1) / s_slope h ≤ 2 * s_dist φ a b h + s_slope h - 1 := Int.ediv_le_self _ (by omega)
  have h5 : 0 ≤ (2 * s_dist φ a b h + s_slope h - 1) / s_slope h := Int.ediv_nonneg (by omega) (by omega)
  omega
theorem s_sh_b {φ : Int → Int} (ok : s_ok φ) {a t b h : Int} (ha0 : 0 ≤ a) (ha : a < 6) (ht0 : 0 ≤ t) (ht : t ≤ 4) (hb0 : 0 ≤ b) (hb : b < 6) (h0 : 0 ≤ h) (h1 : h < 10) : 0 ≤ s_sh φ a t b h ∧ s_sh φ a t b h ≤ 80 := by
  have h2 := (ok.2.2.2.2.2.1 a ha0 ha).2.1
  have h3 := q_mulb h2.1 h2.2 ht0 ht
  unfold s_sh
  split
  · omega
  · have h4 := s_loss_b ok ha0 ha hb0 hb h0 h1 (by omega)
    omega
theorem s_rows_b {φ : Int → Int} (ok : s_ok φ) : 0 ≤ φ 0 ∧ φ 0 ≤ 6 := ok.1
theorem s_pt_b {φ : Int → Int} (ok : s_ok φ) {r : Int} (h0 : 0 ≤ r) (h1 : r < 6) : (0 ≤ s_pt φ r 0 ∧ s_pt φ r 0 ≤ 200) ∧ (0 ≤ s_pt φ r 1 ∧ s_pt φ r 1 ≤ 20) ∧ (0 ≤ s_pt φ r 2 ∧ s_pt φ r 2 ≤ 4) := ok.2.2.2.2.2.1 r h0 h1
theorem s_rt_b {φ : Int → Int} (ok : s_ok φ) {a b h : Int} (ha0 : 0 ≤ a) (ha : a < 6) (hb0 : 0 ≤ b) (hb : b < 6) (h0 : 0 ≤ h) (h1 : h < 10) : 0 ≤ s_rt φ a b h ∧ s_rt φ a b h ≤ 999 := ok.2.2.2.2.2.2.1 a b h ha0 ha hb0 hb h0 h1
theorem s_tio_b {φ : Int → Int} (ok : s_ok φ) {r : Int} (h : Int) (h0 : 0 ≤ r) (h1 : r < 6) : 0 ≤ s_ti φ r (s_pt φ r 2) h ∧ s_ti φ r (s_pt φ r 2) h ≤ 4 := by
  have h2 := (s_pt_b ok h0 h1).2.2
  have h3 := s_ti_b (φ := φ) (r := r) (h := h) h2.1
  omega
theorem s_he_b {φ : Int → Int} (ok : s_ok φ) {r : Int} (h : Int) (h0 : 0 ≤ r) (h1 : r < 6) : 0 ≤ s_he φ r h ∧ s_he φ r h ≤ 80 := by
  have h2 := (s_pt_b ok h0 h1).2.1
  have h3 := s_tio_b ok h h0 h1
  exact q_mulb h2.1 h2.2 h3.1 h3.2
theorem s_si_b {φ : Int → Int} (ok : s_ok φ) {a b h : Int} (ha0 : 0 ≤ a) (ha : a < 6) (hb0 : 0 ≤ b) (hb : b < 6) (h0 : 0 ≤ h) (h1 : h < 10) : 0 ≤ s_si φ a b h ∧ s_si φ a b h ≤ 80 := by
  have h3 := s_tio_b ok h ha0 ha
  exact s_sh_b ok ha0 ha h3.1 h3.2 hb0 hb h0 h1
theorem s_up_b {φ : Int → Int} (ok : s_ok φ) {a r h : Int} (ha0 : 0 ≤ a) (ha : a < 6) (hb0 : 0 ≤ r) (hb : r < 6) (h0 : 0 ≤ h) (h1 : h < 10) : 0 ≤ s_up φ r h a ∧ s_up φ r h a ≤ 80 := by
  have h3 := s_si_b ok ha0 ha hb0 hb h0 h1
  unfold s_up
  split <;> omega
theorem s_bN_b {φ : Int → Int} (ok : s_ok φ) {r h : Int} (hb0 : 0 ≤ r) (hb : r < 6) (h0 : 0 ≤ h) (h1 : h < 10) (n : Nat) (hn : (n : Int) ≤ φ 0) : (0 ≤ (s_bN φ r h n).2 ∧ (s_bN φ r h n).2 ≤ 80) ∧ (((s_bN φ r h n).1 = -6 ∧ (s_bN φ r h n).2 = 0) ∨ (0 ≤ (s_bN φ r h n).1 ∧ (s_bN φ r h n).1 < n ∧ 0 < (s_bN φ r h n).2 ∧ (s_bN φ r h n).2 = s_up φ r h (s_bN φ r h n).1)) := by
  induction n with
  | zero => simp [s_bN]
  | succ n ih =>
    have hr := s_rows_b ok
    have ih := ih (by omega)
    have hu := s_up_b ok (a := n) (by omega) (by omega) hb0 hb h0 h1
    by_cases hm : s_more φ r n (s_up φ r h n) (s_bN φ r h n).1 (s_bN φ r h n).2
    · rw [show s_bN φ r h (n + 1) = ((n : Int), s_up φ r h n) from Prod.ext (q_if_t hm) (q_if_t hm)]
      refine ⟨hu, Or.inr ⟨by show 0 ≤ (n : Int); omega, by show (n : Int) < ((n + 1 : Nat) : Int); omega, ?_, rfl⟩⟩
      show 0 < s_up φ r h n
      rcases hm with hm | hm
      · omega
      · exact hm.1
    · rw [show s_bN φ r h (n + 1) = s_bN φ r h n from Prod.ext (q_if_f hm) (q_if_f hm)]
      refine ⟨ih.1, ih.2.elim Or.inl (fun q => Or.inr ⟨q.1, by omega, q.2.2.1, q.2.2.2⟩)⟩
theorem s_bl_b {φ : Int → Int} (ok : s_ok φ) {r h : Int} (hb0 : 0 ≤ r) (hb : r < 6) (h0 : 0 ≤ h) (h1 : h < 10) : s_bl φ r h = -6 ∨ (0 ≤ s_bl φ r h ∧ s_bl φ r h < φ 0) := by
  have hr := s_rows_b ok
  have h2 := s_bN_b ok hb0 hb h0 h1 (φ 0).toNat (by omega)
  rcases h2.2 with q | q
  · exact Or.inl q.1
  · exact Or.inr ⟨q.1, by have := q.2.1; show (s_bN φ r h (φ 0).toNat).1 < φ 0; omega⟩
theorem s_shd_b {φ : Int → Int} (ok : s_ok φ) {r h : Int} (hb0 : 0 ≤ r) (hb : r < 6) (h0 : 0 ≤ h) (h1 : h < 10) : 0 ≤ s_shd φ r h ∧ s_shd φ r h ≤ s_he φ r h := by
  have hr := s_rows_b ok
  have h2 := s_bl_b ok hb0 hb h0 h1
  have h3 := s_he_b ok h hb0 hb
  unfold s_shd
  split
  · omega
  · have h4 := s_si_b ok (a := s_bl φ r h) (by omega) (by omega) hb0 hb h0 h1
    omega
theorem s_y_b {φ : Int → Int} (ok : s_ok φ) {r h : Int} (hb0 : 0 ≤ r) (hb : r < 6) (h0 : 0 ≤ h) (h1 : h < 10) : 0 ≤ s_y φ r h ∧ s_y φ r h ≤ 420 := by
  have h2 := s_shd_b ok hb0 hb h0 h1
  have h3 := s_he_b ok h hb0 hb
  have h4 := s_sun_b h0 h1
  have h5 := q_mulb (a := s_he φ r h - s_shd φ r h) (b := s_sun h) (A := 80) (B := 5) (by omega) (by omega) (by omega) (by omega)
  have h6 := (s_pt_b ok hb0 hb).2.1
  unfold s_y
  omega
theorem s_yo_b {φ : Int → Int} (ok : s_ok φ) {r : Int} (hb0 : 0 ≤ r) (hb : r < 6) : 0 ≤ s_yo φ r ∧ s_yo φ r ≤ 4200 :=
  q_sum_b (A := 420) (n := 10) (fun k h0 h1 => s_y_b ok hb0 hb h0 (by omega))
theorem s_all_b {φ : Int → Int} (ok : s_ok φ) : 0 ≤ s_all φ ∧ s_all φ ≤ 25200 := by
  have hr := s_rows_b ok
  have h := q_sum_b (f := s_yo φ) (A := 4200) (n := (φ 0).toNat) (fun k h0 h1 => s_yo_b ok h0 (by omega))
  have e : s_all φ = q_sum (s_yo φ) (φ 0).toNat := rfl
  rw [e]
  have h2 : ((φ 0).toNat : Int) ≤ 6 := by omega
  omega
/-! steps of the loops -/
theorem q_B_1 {P : Prop} (h : P) : 1 = q_B P := (q_B_t h).symm
theorem q_B_0 {P : Prop} (h : ¬ P) : 0 = q_B P := (q_B_f h).symm
def s_kN (φ : Int → Int) (a t h k : Int) : Prop := ∀ b, 0 ≤ b → b < k → b = a ∨ s_sh φ a t b h ≤ s_rt φ a b h
theorem s_kN_s {φ : Int → Int} {a t h k : Int} (h0 : 0 ≤ k) : s_kN φ a t h (k + 1) ↔ s_kN φ a t h k ∧ (k = a ∨ s_sh φ a t k h ≤ s_rt φ a k h) :=
  ⟨fun q => ⟨fun b b0 b1 => q b b0 (by omega), q k h0 (by omega)⟩, fun q b b0 b1 => by
    rcases (show b < k ∨ b = k by omega) with h | h
    · exact q.1 b b0 h
    · subst h; exact q.2⟩
theorem s_bN_s {φ : Int → Int} {r h k : Int} (h0 : 0 ≤ k) : s_bN φ r h (k + 1).toNat = (q_if (s_more φ r k (s_up φ r h k) (s_bN φ r h k.toNat).1 (s_bN φ r h k.toNat).2) k (s_bN φ r h k.toNat).1, q_if (s_more φ r k (s_up φ r h k) (s_bN φ r h k.toNat).1 (s_bN φ r h k.toNat).2) (s_up φ r h k) (s_bN φ r h k.toNat).2) := by
  obtain ⟨n, rfl⟩ : ∃ n : Nat, k = n := ⟨k.toNat, by omega⟩
  rw [show ((n : Int) + 1).toNat = n + 1 by omega, Int.toNat_natCast]
  rfl
def s_tkN (φ : Int → Int) (p k : Int) : Prop := ∃ r, 0 ≤ r ∧ r < k ∧ s_pt φ r 0 = p
theorem s_tkN_s {φ : Int → Int} {p k : Int} (h0 : 0 ≤ k) : s_tkN φ p (k + 1) ↔ s_tkN φ p k ∨ s_pt φ k 0 = p :=
  ⟨fun ⟨r, r0, r1, e⟩ => by
    rcases (show r < k ∨ r = k by omega) with h | h
    · exact Or.inl ⟨r, r0, h, e⟩
    · subst h; exact Or.inr e, fun q => by
    rcases q with ⟨r, r0, r1, e⟩ | e
    · exact ⟨r, r0, by omega, e⟩
    · exact ⟨k, h0, by omega, e⟩⟩
theorem s_mbN_s {φ : Int → Int} {r k : Int} (h0 : 0 ≤ k) : s_mbN φ r (k + 1).toNat = (q_if ((s_mbN φ r k.toNat).2 < s_blh φ r k) k (s_mbN φ r k.toNat).1, q_if ((s_mbN φ r k.toNat).2 < s_blh φ r k) (s_blh φ r k) (s_mbN φ r k.toNat).2) := by
  obtain ⟨n, rfl⟩ : ∃ n : Nat, k = n := ⟨k.toNat, by omega⟩
  rw [show ((n : Int) + 1).toNat = n + 1 by omega, Int.toNat_natCast]
  rfl
theorem s_mbN_b {φ : Int → Int} {r : Int} (n : Nat) : (0 ≤ (s_mbN φ r n).2 ∧ (s_mbN φ r n).2 ≤ 10) := by
  induction n with
  | zero => simp [s_mbN]
  | succ n ih =>
    have h2 := q_sum_b (f := fun h => q_B (s_bl φ r h = n)) (A := 1) (n := 10) (fun k _ _ => by rcases q_B_or (s_bl φ r k = n) with q | q <;> (show 0 ≤ q_B _ ∧ q_B _ ≤ 1) <;> omega)
    have h3 : 0 ≤ s_blh φ r n ∧ s_blh φ r n ≤ 10 := ⟨h2.1, h2.2⟩
    by_cases hm : (s_mbN φ r n).2 < s_blh φ r n
    · rw [show (s_mbN φ r (n + 1)).2 = s_blh φ r n from q_if_t hm]; exact h3
    · rw [show (s_mbN φ r (n + 1)).2 = (s_mbN φ r n).2 from q_if_f hm]; exact ih
theorem s_blh_b {φ : Int → Int} (r a : Int) : 0 ≤ s_blh φ r a ∧ s_blh φ r a ≤ 10 :=
  q_sum_b (f := fun h => q_B (s_bl φ r h = a)) (A := 1) (n := 10) (fun k _ _ => by rcases q_B_or (s_bl φ r k = a) with q | q <;> (show 0 ≤ q_B _ ∧ q_B _ ≤ 1) <;> omega)
theorem s_far_b {φ : Int → Int} (ok : s_ok φ) {a b : Int} (ha0 : 0 ≤ a) (ha : a < 6) (hb0 : 0 ≤ b) (hb : b < 6) : 0 ≤ s_far φ a b ∧ s_far φ a b ≤ 200 := by
  have h1 := (s_pt_b ok ha0 ha).1
  have h2 := (s_pt_b ok hb0 hb).1
  unfold s_far
  omega
/-! answers of reads, and why a change is refused -/
noncomputable def s_ofRow (φ : Int → Int) (r w : Int) : Int := if ¬ (0 ≤ r ∧ r < φ 0) then -1 else if w = 0 then s_pt φ r 0 else if w = 1 then s_pt φ r 1 else if w = 2 then s_pt φ r 2 else if w = 3 then s_pt φ r 3 + 1000000000 else if w = 4 then s_yo φ r else if w = 5 then s_full φ r else if w = 6 then s_low φ r else if w = 7 then s_shh φ r else if w = 8 then s_mb φ r else -2
noncomputable def s_inHour (φ : Int → Int) (r h w : Int) : Int := if ¬ ((0 ≤ r ∧ r < φ 0) ∧ (0 ≤ h ∧ h < 10)) then -1 else if w = 0 then s_ti φ r (s_pt φ r 2) h else if w = 1 then s_he φ r h else if w = 2 then s_shd φ r h else if w = 3 then s_bl φ r h else if w = 4 then s_y φ r h else -2
noncomputable def s_over (φ : Int → Int) (a b h w : Int) : Int := if ¬ ((0 ≤ a ∧ a < φ 0) ∧ (0 ≤ b ∧ b < φ 0) ∧ (0 ≤ h ∧ h < 10)) then -1 else if a = b ∨ ¬ (0 ≤ w ∧ w ≤ 2) then -2 else if w = 0 then s_rt φ a b h else if w = 1 then s_si φ a b h else s_sh φ a (s_pt φ a 2) b h
def s_offer (φ : Int → Int) (k n w : Int) : Int := if ¬ (0 ≤ k ∧ k ≤ 1) ∨ ¬ (0 ≤ w ∧ w ≤ 4) then -2 else if ¬ (0 ≤ n ∧ n < φ (3 + k)) then -1 else if k = 1 then s_bd φ n w else if w = 4 then -6 else s_as φ n w
noncomputable def s_count (φ : Int → Int) (pl hn w : Int) : Int := if w = 0 then φ 0 else if w = 1 then φ 3 else if w = 2 then φ 4 else if w = 3 then s_all φ else if w = 4 then φ 2 else if w = 5 then φ 1 else if w = 6 then pl else if w = 7 then hn else if 10 ≤ w ∧ w ≤ 19 then φ (5 + w - 10) else -2
def s_wTilt (φ : Int → Int) (r u : Int) : Int := if ¬ (0 ≤ r ∧ r < φ 0) then -1 else if 0 ≤ u ∧ u ≤ 4 then 0 else -2
def s_wGrant (φ : Int → Int) (a b h u : Int) : Int := if ¬ ((0 ≤ a ∧ a < φ 0) ∧ (0 ≤ b ∧ b < φ 0) ∧ (0 ≤ h ∧ h < 10)) then -1 else if a = b ∨ ¬ (0 ≤ u ∧ u ≤ 999) then -2 else 0
def s_wAsk (φ : Int → Int) (a h u p : Int) : Int := if ¬ ((0 ≤ a ∧ a < φ 0) ∧ (0 ≤ h ∧ h < 10)) then -1 else if ¬ ((1 ≤ u ∧ u ≤ 200) ∧ (0 ≤ p ∧ p ≤ 999)) then -2 else if φ 3 = 10 then -4 else 0
def s_wBid (φ : Int → Int) (b a h u p : Int) : Int := if ¬ ((0 ≤ b ∧ b < φ 0) ∧ (0 ≤ a ∧ a < φ 0) ∧ (0 ≤ h ∧ h < 10)) then -1 else if b = a ∨ ¬ ((1 ≤ u ∧ u ≤ 200) ∧ (0 ≤ p ∧ p ≤ 999)) then -2 else if φ 4 = 10 then -4 else 0
/-! what changes do to the model's cells -/
noncomputable def s_rec (S : q_S) : q_S := if S 150 2 = 6 then q_up (q_cp (q_up (q_cp S 152 152 489 0 2445) 150 2 5) 151 152 0 2445 489) 150 2 6 else q_up (q_cp S 151 152 0 (S 150 2 * 489) 489) 150 2 (S 150 2 + 1)
theorem s_rec_ne {S : q_S} {a : Nat} (h : a ≠ 150) (h2 : a ≠ 152) : s_rec S a = S a := by
  funext j
  unfold s_rec
  split <;> simp [q_up, q_cp, h, h2]
theorem s_rec_f {S : q_S} {j : Int} (h : j ≠ 2) : s_rec S 150 j = S 150 j := by
  unfold s_rec
  split <;> simp [q_up, q_cp, h]
theorem s_rec_151 {S : q_S} : s_rec S 151 = S 151 := s_rec_ne (by decide) (by decide)
noncomputable def s_tiltS (S : q_S) (r u : Int) : q_S := if s_wTilt (S 151) r u < 0 then S else q_up (s_rec S) 151 (15 + 4 * r + 2) u
def s_tiltV (φ : Int → Int) (r u : Int) : Int := if s_wTilt φ r u < 0 then s_wTilt φ r u else s_pt φ r 2
noncomputable def s_grantS (S : q_S) (a b h u : Int) : q_S := if s_wGrant (S 151) a b h u < 0 then S else q_up (s_rec S) 151 (39 + 10 * (6 * a + b) + h) u
def s_grantV (φ : Int → Int) (a b h u : Int) : Int := if s_wGrant φ a b h u < 0 then s_wGrant φ a b h u else s_rt φ a b h
def s_wWind (h u : Int) : Int := if ¬ (0 ≤ h ∧ h < 10) then -1 else if ¬ (0 ≤ u ∧ u ≤ 9) then -2 else 0
noncomputable def s_windS (S : q_S) (h u : Int) : q_S := if s_wWind h u < 0 then S else q_up (s_rec S) 151 (5 + h) u
def s_windV (φ : Int → Int) (h u : Int) : Int := if s_wWind h u < 0 then s_wWind h u else φ (5 + h)
noncomputable def s_stowS (S : q_S) (u : Int) : q_S := if ¬ (1 ≤ u ∧ u ≤ 10) then S else q_up (s_rec S) 151 1 u
def s_stowV (φ : Int → Int) (u : Int) : Int := if ¬ (1 ≤ u ∧ u ≤ 10) then -2 else φ 1
noncomputable def s_rowV (φ : Int → Int) (p l u : Int) : Int := if ¬ ((0 ≤ p ∧ p ≤ 200) ∧ (1 ≤ l ∧ l ≤ 20) ∧ (0 ≤ u ∧ u ≤ 4)) then -2 else if φ 0 = 6 then -4 else q_if (s_taken φ p) (-5) (φ 0)
def s_built (S : q_S) (r p l u : Int) : q_S := q_up (q_up (q_up (q_up (q_up S 151 (15 + 4 * r + 0) p) 151 (15 + 4 * r + 1) l) 151 (15 + 4 * r + 2) u) 151 (15 + 4 * r + 3) 0) 151 0 (r + 1)
noncomputable def s_rowS (S : q_S) (p l u : Int) : q_S := if s_rowV (S 151) p l u < 0 then S else s_built (s_rec S) (S 151 0) p l u
def s_asked (S : q_S) (a h u p : Int) : q_S := q_up (q_up (q_up (q_up (q_up S 151 (399 + 4 * S 151 3 + 0) a) 151 (399 + 4 * S 151 3 + 1) h) 151 (399 + 4 * S 151 3 + 2) u) 151 (399 + 4 * S 151 3 + 3) p) 151 3 (S 151 3 + 1)
noncomputable def s_askS (S : q_S) (a h u p : Int) : q_S := if s_wAsk (S 151) a h u p < 0 then S else s_asked (s_rec S) a h u p
def s_askV (φ : Int → Int) (a h u p : Int) : Int := if s_wAsk φ a h u p < 0 then s_wAsk φ a h u p else φ 3 + 1
def s_bought (S : q_S) (b a h u p : Int) : q_S := q_up (q_up (q_up (q_up (q_up (q_up S 151 (439 + 5 * S 151 4 + 0) a) 151 (439 + 5 * S 151 4 + 1) h) 151 (439 + 5 * S 151 4 + 2) u) 151 (439 + 5 * S 151 4 + 3) p) 151 (439 + 5 * S 151 4 + 4) b) 151 4 (S 151 4 + 1)
noncomputable def s_bidS (S : q_S) (b a h u p : Int) : q_S := if s_wBid (S 151) b a h u p < 0 then S else s_bought (s_rec S) b a h u p
def s_bidV (φ : Int → Int) (b a h u p : Int) : Int := if s_wBid φ b a h u p < 0 then s_wBid φ b a h u p else φ 4 + 1
theorem q_cp_lo {S : q_S} {src dst : Nat} {sp dp k j : Int} (h : j < dp) : q_cp S src dst sp dp k dst j = S dst j := by
  simp only [q_cp]
  rw [if_neg (by omega)]
theorem q_cp_in {S : q_S} {src dst : Nat} {sp dp k j : Int} (h : dp ≤ j) (h2 : j < dp + k) : q_cp S src dst sp dp k dst j = S src (sp + (j - dp)) := by
  simp only [q_cp]
  rw [if_pos ⟨trivial, h, h2⟩]
/-- one place more of a shift down -/
theorem q_cp_d {S : q_S} {a : Nat} {sp dp k m : Int} (h0 : dp ≤ k) (hm : sp = dp + m) : q_up (q_cp S a a sp dp (k - dp)) a k (S a (k + m)) = q_cp S a a sp dp (k + 1 - dp) := by
  have h := q_cp_s (S := S) (src := a) (dst := a) (sp := sp) (dp := dp) (k := k - dp) (by omega)
  rw [show dp + (k - dp) = k by omega, show sp + (k - dp) = k + m by omega, show k - dp + 1 = k + 1 - dp by omega] at h
  exact h
def s_dropA (S : q_S) (n : Int) : q_S := q_up (q_cp S 151 151 (403 + 4 * n) (399 + 4 * n) (399 + 4 * (S 151 3 - 1) - (399 + 4 * n))) 151 3 (S 151 3 - 1)
def s_dropB (S : q_S) (n : Int) : q_S := q_up (q_cp S 151 151 (444 + 5 * n) (439 + 5 * n) (439 + 5 * (S 151 4 - 1) - (439 + 5 * n))) 151 4 (S 151 4 - 1)
def s_backV (φ : Int → Int) (k n : Int) : Int := if ¬ (0 ≤ k ∧ k ≤ 1) then -2 else if ¬ (0 ≤ n ∧ n < φ (3 + k)) then -1 else φ (3 + k) - 1
noncomputable def s_backS (S : q_S) (k n : Int) : q_S := if s_backV (S 151) k n < 0 then S else if k = 0 then s_dropA (s_rec S) n else s_dropB (s_rec S) n
def s_undoV (S : q_S) : Int := if S 150 2 = 0 then -5 else S 150 2 - 1
def s_undoS (S : q_S) : q_S := if S 150 2 = 0 then S else q_cp (q_up S 150 2 (S 150 2 - 1)) 152 151 ((S 150 2 - 1) * 489) 0 489
def s_saveV (S : q_S) (k : Int) : Int := if ¬ (0 ≤ k ∧ k ≤ 1) then -2 else S 151 0
def s_saveS (S : q_S) (k : Int) : q_S := if ¬ (0 ≤ k ∧ k ≤ 1) then S else q_up (q_cp S 151 153 0 (489 * k) 489) 154 k 1
def s_restV (S : q_S) (k : Int) : Int := if ¬ (0 ≤ k ∧ k ≤ 1) then -2 else if S 154 k = 0 then -5 else S 153 (489 * k)
noncomputable def s_restS (S : q_S) (k : Int) : q_S := if ¬ (0 ≤ k ∧ k ≤ 1) then S else if S 154 k = 0 then S else q_cp (s_rec S) 153 151 (489 * k) 0 489
