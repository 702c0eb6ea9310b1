/-! purses of rows that are not there, sellers and buyers: through all changes -/
theorem s_pz_set {φ : Int → Int} {j v : Int} (ok : s_ok φ) (p : s_pz φ) (h : j = 1 ∨ j = 2 ∨ (5 ≤ j ∧ j < 15) ∨ (15 ≤ j ∧ j < 39 ∧ (j - 15) % 4 ≠ 3) ∨ (39 ≤ j ∧ j < 399)) : s_pz (s_set φ j v) := by
  have c0 := ok.1
  unfold s_pz s_pt s_as s_bd at p ⊢
  rw [s_set_ne (show (0 : Int) ≠ j by omega), s_set_ne (show (3 : Int) ≠ j by omega), s_set_ne (show (4 : Int) ≠ j by omega)]
  refine ⟨fun r x y => ?_, fun i x y => ?_, fun i x y => ?_⟩
  · rw [s_set_ne (by omega)]; exact p.1 r x y
  · rw [s_set_ne (by omega)]; exact p.2.1 i x y
  · rw [s_set_ne (by omega), s_set_ne (by omega)]; exact p.2.2 i x y
theorem s_pz_row {φ : Int → Int} {a l u : Int} (ok : s_ok φ) (p : s_pz φ) (h : φ 0 < 6) : s_pz (s_set (s_set (s_set (s_set (s_set φ (15 + 4 * φ 0 + 0) a) (15 + 4 * φ 0 + 1) l) (15 + 4 * φ 0 + 2) u) (15 + 4 * φ 0 + 3) 0) 0 (φ 0 + 1)) := by
  have c0 := ok.1
  unfold s_pz s_pt s_as s_bd at p ⊢
  rw [s_set_eq, s_set_ne (show (3 : Int) ≠ 0 by omega), s_set_ne (show (3 : Int) ≠ 15 + 4 * φ 0 + 3 by omega), s_set_ne (show (3 : Int) ≠ 15 + 4 * φ 0 + 2 by omega), s_set_ne (show (3 : Int) ≠ 15 + 4 * φ 0 + 1 by omega), s_set_ne (show (3 : Int) ≠ 15 + 4 * φ 0 + 0 by omega),
    s_set_ne (show (4 : Int) ≠ 0 by omega), s_set_ne (show (4 : Int) ≠ 15 + 4 * φ 0 + 3 by omega), s_set_ne (show (4 : Int) ≠ 15 + 4 * φ 0 + 2 by omega), s_set_ne (show (4 : Int) ≠ 15 + 4 * φ 0 + 1 by omega), s_set_ne (show (4 : Int) ≠ 15 + 4 * φ 0 + 0 by omega)]
  refine ⟨fun r x y => ?_, fun i x y => ?_, fun i x y => ?_⟩
  · rw [s_set_ne (by omega), s_set_ne (by omega), s_set_ne (by omega), s_set_ne (by omega), s_set_ne (by omega)]; exact p.1 r (by omega) y
  · rw [s_set_ne (by omega), s_set_ne (by omega), s_set_ne (by omega), s_set_ne (by omega), s_set_ne (by omega)]; have := p.2.1 i x y; omega
  · have q := p.2.2 i x y
    rw [s_set_ne (by omega), s_set_ne (by omega), s_set_ne (by omega), s_set_ne (by omega), s_set_ne (by omega)]
    rw [s_set_ne (by omega), s_set_ne (by omega), s_set_ne (by omega), s_set_ne (by omega), s_set_ne (by omega)]
    omega
theorem s_pz_ask {φ : Int → Int} {a h u q : Int} (ok : s_ok φ) (p : s_pz φ) (w : s_wAsk φ a h u q = 0) : s_pz (s_askP φ a h u q) := by
  have c0 := ok.1
  have c3 := ok.2.2.1
  have w := s_wAsk_0 w
  have e : ∀ z, (z < 399 ∧ z ≠ 3) ∨ 439 ≤ z ∨ (399 ≤ z ∧ z < 399 + 4 * φ 3) → s_askP φ a h u q z = φ z := fun z hz => by
    unfold s_askP
    rw [s_set_ne (by omega), s_set_ne (by omega), s_set_ne (by omega), s_set_ne (by omega), s_set_ne (by omega)]
  have e3 : s_askP φ a h u q 3 = φ 3 + 1 := s_set_eq
  have en : s_askP φ a h u q (399 + 4 * φ 3 + 0) = a := by
    unfold s_askP
    rw [s_set_ne (by omega), s_set_ne (by omega), s_set_ne (by omega), s_set_ne (by omega), s_set_eq]
  unfold s_pz s_pt s_as s_bd at p ⊢
  rw [e3, e 0 (by omega), e 4 (by omega)]
  refine ⟨fun r x y => ?_, fun i x y => ?_, fun i x y => ?_⟩
  · rw [e _ (by omega)]; exact p.1 r x y
  · rcases (show i < φ 3 ∨ i = φ 3 by omega) with g | g
    · rw [e _ (by omega)]; exact p.2.1 i x g
    · rw [g, en]; omega
  · rw [e _ (by omega), e (439 + 5 * i + 4) (by omega)]; exact p.2.2 i x y
theorem s_pz_bid {φ : Int → Int} {b a h u q : Int} (ok : s_ok φ) (p : s_pz φ) (w : s_wBid φ b a h u q = 0) : s_pz (s_bidP φ b a h u q) := by
  have c0 := ok.1
  have c3 := ok.2.2.1
  have c4 := ok.2.2.2.1
  have w := s_wBid_0 w
  have e : ∀ z, (z < 439 ∧ z ≠ 4) ∨ (439 ≤ z ∧ z < 439 + 5 * φ 4) → s_bidP φ b a h u q z = φ z := fun z hz => by
    unfold s_bidP
    rw [s_set_ne (by omega), s_set_ne (by omega), s_set_ne (by omega), s_set_ne (by omega), s_set_ne (by omega), s_set_ne (by omega)]
  have e3 : s_bidP φ b a h u q 4 = φ 4 + 1 := s_set_eq
  have en : s_bidP φ b a h u q (439 + 5 * φ 4 + 0) = a := by
    unfold s_bidP
    rw [s_set_ne (by omega), s_set_ne (by omega), s_set_ne (by omega), s_set_ne (by omega), s_set_ne (by omega), s_set_eq]
  have en4 : s_bidP φ b a h u q (439 + 5 * φ 4 + 4) = b := by
    unfold s_bidP
    rw [s_set_ne (by omega), s_set_eq]
  unfold s_pz s_pt s_as s_bd at p ⊢
  rw [e3, e 0 (by omega), e 3 (by omega)]
  refine ⟨fun r x y => ?_, fun i x y => ?_, fun i x y => ?_⟩
  · rw [e _ (by omega)]; exact p.1 r x y
  · rw [e _ (by omega)]; exact p.2.1 i x y
  · rcases (show i < φ 4 ∨ i = φ 4 by omega) with g | g
    · rw [e _ (by omega), e (439 + 5 * i + 4) (by omega)]; exact p.2.2 i x g
    · rw [g, en, en4]; omega
theorem s_pz_dpA {φ : Int → Int} {n : Int} (ok : s_ok φ) (p : s_pz φ) (n0 : 0 ≤ n) (n1 : n < φ 3) : s_pz (s_dpA φ n) := by
  have c0 := ok.1
  have c3 := ok.2.2.1
  unfold s_pz s_pt s_as s_bd at p ⊢
  rw [s_dpA_3, s_dpA_lo (show (0 : Int) < 399 + 4 * n by omega) (by decide), s_dpA_lo (show (4 : Int) < 399 + 4 * n by omega) (by decide)]
  refine ⟨fun r x y => ?_, fun i x y => ?_, fun i x y => ?_⟩
  · rw [s_dpA_lo (by omega) (by omega)]; exact p.1 r x y
  · rcases (show i < n ∨ n ≤ i by omega) with g | g
    · rw [s_dpA_lo (by omega) (by omega)]; exact p.2.1 i x (by omega)
    · rw [s_dpA_in (by omega) (by omega) (by omega), show 399 + 4 * i + 0 + 4 = 399 + 4 * (i + 1) + 0 by omega]; exact p.2.1 (i + 1) (by omega) (by omega)
  · rw [s_dpA_hi (by omega) (by omega), s_dpA_hi (by omega) (by omega)]; exact p.2.2 i x y
theorem s_pz_dpB {φ : Int → Int} {n : Int} (ok : s_ok φ) (p : s_pz φ) (n0 : 0 ≤ n) (n1 : n < φ 4) : s_pz (s_dpB φ n) := by
  have c0 := ok.1
  have c3 := ok.2.2.1
  have c4 := ok.2.2.2.1
  unfold s_pz s_pt s_as s_bd at p ⊢
  rw [s_dpB_4, s_dpB_lo (show (0 : Int) < 439 + 5 * n by omega) (by decide), s_dpB_lo (show (3 : Int) < 439 + 5 * n by omega) (by decide)]
  refine ⟨fun r x y => ?_, fun i x y => ?_, fun i x y => ?_⟩
  · rw [s_dpB_lo (by omega) (by omega)]; exact p.1 r x y
  · rw [s_dpB_lo (by omega) (by omega)]; exact p.2.1 i x y
  · rcases (show i < n ∨ n ≤ i by omega) with g | g
    · rw [s_dpB_lo (by omega) (by omega), s_dpB_lo (by omega) (by omega)]; exact p.2.2 i x (by omega)
    · rw [s_dpB_in (by omega) (by omega) (by omega), s_dpB_in (by omega) (by omega) (by omega), show 439 + 5 * i + 0 + 5 = 439 + 5 * (i + 1) + 0 by omega, show 439 + 5 * i + 4 + 5 = 439 + 5 * (i + 1) + 4 by omega]; exact p.2.2 (i + 1) (by omega) (by omega)
/-- the same but for units, rights, and purses of rows that are there -/
def s_pp (φ ψ : Int → Int) : Prop := s_sam φ ψ ∧ ∀ r, φ 0 ≤ r → r < 6 → s_pt ψ r 3 = s_pt φ r 3
theorem s_pp_r {φ : Int → Int} : s_pp φ φ := ⟨s_sam_r, fun _ _ _ => rfl⟩
theorem s_pp_t {φ ψ χ : Int → Int} (h : s_pp φ ψ) (g : s_pp ψ χ) : s_pp φ χ := ⟨s_sam_t h.1 g.1, fun r x y => (g.2 r (by rw [h.1.1 0 (by decide)]; exact x) y).trans (h.2 r x y)⟩
theorem s_pz_pp {φ ψ : Int → Int} (ok : s_ok φ) (h : s_pp φ ψ) (p : s_pz φ) : s_pz ψ := by
  have c3 := ok.2.2.1
  have c4 := ok.2.2.2.1
  unfold s_pz
  rw [h.1.1 0 (by decide), h.1.1 3 (by decide), h.1.1 4 (by decide)]
  refine ⟨fun r x y => by rw [h.2 r x y]; exact p.1 r x y, fun i x y => ?_, fun i x y => ?_⟩
  · rw [h.1.2.1 i 0 x (by omega) (by decide) (by decide) (by decide)]; exact p.2.1 i x y
  · rw [h.1.2.2 i 0 x (by omega) (by decide) (by decide) (by decide), h.1.2.2 i 4 x (by omega) (by decide) (by decide) (by decide)]; exact p.2.2 i x y
theorem s_pp_trd {φ : Int → Int} (ok : s_ok φ) (p : s_pz φ) {b k u : Int} (b0 : 0 ≤ b) (b1 : b < φ 4) (k0 : 0 ≤ k) (k1 : k < 10) : s_pp φ (s_trd φ k b u) := by
  have c4 := ok.2.2.2.1
  have q := p.2.2 b b0 b1
  exact ⟨s_sam_trd ok b0 (by omega) k0 k1, fun r x y => s_trd_ne (by omega) (by omega) (by omega) (by omega)⟩
theorem s_tbL_pp {b : Int} (b0 : 0 ≤ b) (n : Nat) : ∀ x : (Int → Int) × Int × Int, s_ok x.1 → s_pz x.1 → b < x.1 4 → 0 ≤ x.2.1 → x.2.1 ≤ 999 → s_pp x.1 (s_tbL b n x).1 ∧ x.2.2 ≤ (s_tbL b n x).2.2 := by
  induction n with
  | zero => exact fun x _ _ _ _ _ => ⟨s_pp_r, Int.le_refl _⟩
  | succ n ih =>
    intro x ok p b1 h0 h1
    have c4 := ok.2.2.2.1
    by_cases h : s_na x.1 b ≠ -6 ∧ 0 < x.2.1 ∧ 0 < s_bd x.1 b 2
    · have hn : 0 ≤ s_na x.1 b ∧ s_na x.1 b < x.1 3 ∧ s_suit x.1 b (s_na x.1 b) := (s_na_b ok b).resolve_left h.1
      have h3 := ok.2.2.1
      have ha := s_as_b ok hn.1 (by omega)
      have hb := s_bd_b ok b0 (by omega)
      have hu : 0 ≤ s_tu x b ∧ s_tu x b ≤ s_as x.1 (s_na x.1 b) 2 ∧ s_tu x b ≤ s_bd x.1 b 2 ∧ s_tu x b ≤ x.2.1 := by unfold s_tu; omega
      have pp := s_pp_trd ok p (u := s_tu x b) b0 b1 hn.1 (show s_na x.1 b < 10 by omega)
      have okn := s_ok_trd ok hn.1 (show s_na x.1 b < 10 by omega) b0 (show b < 10 by omega) hu.1 hu.2.1 hu.2.2.1
      rw [s_tbL_t h]
      have r := ih (s_trd x.1 (s_na x.1 b) b (s_tu x b), x.2.1 - s_tu x b, x.2.2 + s_tu x b) okn (s_pz_pp ok pp p) (by show b < s_trd x.1 (s_na x.1 b) b (s_tu x b) 4; rw [pp.1.1 4 (by decide)]; exact b1) (by show 0 ≤ x.2.1 - s_tu x b; omega) (by show x.2.1 - s_tu x b ≤ 999; omega)
      refine ⟨s_pp_t pp r.1, ?_⟩
      have r2 : x.2.2 + s_tu x b ≤ (s_tbL b n (s_trd x.1 (s_na x.1 b) b (s_tu x b), x.2.1 - s_tu x b, x.2.2 + s_tu x b)).2.2 := r.2
      omega
    · rw [s_tbL_f h]
      exact ⟨s_pp_r, Int.le_refl _⟩
theorem s_tbP_pp {φ : Int → Int} (ok : s_ok φ) (p : s_pz φ) {b : Int} (b0 : 0 ≤ b) (b1 : b < φ 4) : s_pp φ (s_tbP φ b) ∧ 0 ≤ s_tbV φ b := by
  have c4 := ok.2.2.2.1
  have hr := s_ri_v ok b0 (show b < 10 by omega)
  have hi := s_ri_b ok b0 (show b < 10 by omega)
  have h := s_tbL_pp b0 201 (s_x0 φ b) ok p b1 (by show 0 ≤ 999 - φ (s_ri φ b); omega) (by show 999 - φ (s_ri φ b) ≤ 999; omega)
  refine ⟨s_pp_t h.1 ⟨s_sam_ri hi.1 hi.2, fun r x y => ?_⟩, h.2⟩
  have h0 := h.1.1.1 0 (by decide)
  have c0 := ok.1
  have x2 : φ 0 ≤ r := Int.le_trans (Int.le_of_eq (show φ 0 = _ from h0.symm)) x
  show s_set _ (s_ri φ b) _ (15 + 4 * r + 3) = _
  exact s_set_ne (by omega)
theorem s_mtI_pp {q : Int} (n : Nat) : ∀ x : (Int → Int) × Int, s_ok x.1 → s_pz x.1 → n ≤ x.1 4 → s_ok (s_mtI q x n).1 ∧ s_pp x.1 (s_mtI q x n).1 ∧ x.2 ≤ (s_mtI q x n).2 := by
  induction n with
  | zero => exact fun x ok p _ => ⟨ok, s_pp_r, Int.le_refl _⟩
  | succ n ih =>
    intro x ok p hn
    have c4 := ok.2.2.2.1
    have h := ih x ok p (by omega)
    by_cases e : s_pob (s_mtI q x n).1 n = q
    · rw [show s_mtI q x (n + 1) = (s_tbP (s_mtI q x n).1 n, (s_mtI q x n).2 + s_tbV (s_mtI q x n).1 n) from if_pos e]
      have h2 := s_tbP_pp h.1 (s_pz_pp ok h.2.1 p) (b := n) (by omega) (by rw [h.2.1.1.1 4 (by decide)]; omega)
      exact ⟨(s_tbP_k h.1 (by omega) (by omega)).1, s_pp_t h.2.1 h2.1, by show x.2 ≤ (s_mtI q x n).2 + s_tbV (s_mtI q x n).1 n; omega⟩
    · rw [show s_mtI q x (n + 1) = s_mtI q x n from if_neg e]
      exact h
theorem s_mtP_pp {x : (Int → Int) × Int} (ok : s_ok x.1) (p : s_pz x.1) (n : Nat) : s_ok (s_mtP x n).1 ∧ s_pp x.1 (s_mtP x n).1 ∧ x.2 ≤ (s_mtP x n).2 := by
  induction n with
  | zero => exact ⟨ok, s_pp_r, Int.le_refl _⟩
  | succ n ih =>
    have c4 := ok.2.2.2.1
    have h := s_mtI_pp (q := n) (x.1 4).toNat (s_mtP x n) ih.1 (s_pz_pp ok ih.2.1 p) (by rw [ih.2.1.1.1 4 (by decide)]; omega)
    exact ⟨h.1, s_pp_t ih.2.1 h.2.1, Int.le_trans ih.2.2 h.2.2⟩
theorem s_pz_rmA (n : Nat) : ∀ φ : Int → Int, s_ok φ → s_pz φ → n ≤ φ 3 → s_pz (s_rmA n φ) := by
  induction n with
  | zero => exact fun φ _ p _ => p
  | succ n ih =>
    intro φ ok p hn
    show s_pz (s_rmA n (if s_as φ n 2 = 0 then s_dpA φ n else φ))
    split
    · exact ih _ (s_ok_dpA ok (by omega) (by omega)) (s_pz_dpA ok p (by omega) (by omega)) (by rw [s_dpA_3]; omega)
    · exact ih _ ok p (by omega)
theorem s_pz_rmB (n : Nat) : ∀ φ : Int → Int, s_ok φ → s_pz φ → n ≤ φ 4 → s_pz (s_rmB n φ) := by
  induction n with
  | zero => exact fun φ _ p _ => p
  | succ n ih =>
    intro φ ok p hn
    show s_pz (s_rmB n (if s_bd φ n 2 = 0 then s_dpB φ n else φ))
    split
    · exact ih _ (s_ok_dpB ok (by omega) (by omega)) (s_pz_dpB ok p (by omega) (by omega)) (by rw [s_dpB_4]; omega)
    · exact ih _ ok p (by omega)
theorem s_pz_mat {φ : Int → Int} (ok : s_ok φ) (p : s_pz φ) : s_pz (s_matP φ) ∧ 0 ≤ s_matV φ := by
  have c4 := ok.2.2.2.1
  have h := s_mtP_pp (x := (φ, 0)) ok p (φ 4).toNat
  have h4 : (s_mtP (φ, 0) (φ 4).toNat).1 4 = φ 4 := h.2.1.1.1 4 (by decide)
  have pB : s_pz (s_matB φ) := s_pz_rmB _ _ h.1 (s_pz_pp ok h.2.1 p) (by omega)
  have hB : s_ok (s_matB φ) := s_ok_rmB _ _ h.1 (by omega)
  have c3 := hB.2.2.1
  have pA : s_pz (s_matA φ) := s_pz_rmA _ _ hB pB (by omega)
  have hA : s_ok (s_matA φ) := s_ok_rmA _ _ hB (by omega)
  exact ⟨s_pz_set hA pA (by omega), h.2.2⟩
