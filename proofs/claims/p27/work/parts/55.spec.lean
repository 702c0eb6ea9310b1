/-! what a change answers and leaves, in one word -/
def s_opk (φ ψ : Int → Int) (v : Int) : Prop := (v < 0 → ψ = φ) ∧ (0 ≤ v → s_ok ψ ∧ s_pz ψ)
theorem s_up_rec {A : q_S} {j v : Int} : q_up (s_rec A) 151 j v = q_w1 (s_rec A) (s_set (A 151) j v) := by rw [q_up_w, s_rec_151]
theorem s_wTilt_b (φ : Int → Int) (r u : Int) : -2 ≤ s_wTilt φ r u ∧ s_wTilt φ r u ≤ 0 := by unfold s_wTilt; omega
theorem s_k_tilt {φ : Int → Int} (ok : s_ok φ) (p : s_pz φ) (r u : Int) : s_opk φ (s_tiltP φ r u) (s_tiltV φ r u) := by
  have b := s_wTilt_b φ r u
  have c0 := ok.1
  unfold s_opk s_tiltP s_tiltV
  by_cases h : s_wTilt φ r u < 0
  · rw [if_pos h, if_pos h]; exact ⟨fun _ => rfl, fun q => by omega⟩
  · have w := s_wTilt_0 (show s_wTilt φ r u = 0 by omega)
    rw [if_neg h, if_neg h]
    have q := (s_pt_b ok (r := r) (by omega) (by omega)).2.2
    exact ⟨fun g => by omega, fun _ => ⟨s_ok_tilt ok (by omega) (by omega) (by omega) (by omega), s_pz_set ok p (by omega)⟩⟩
theorem s_a_tilt {A : q_S} (ok : s_ok (A 151)) (r u : Int) : s_aft A (s_tiltP (A 151) r u) (s_tiltV (A 151) r u) = s_tiltS A r u := by
  have b := s_wTilt_b (A 151) r u
  have c0 := ok.1
  unfold s_aft s_tiltS s_tiltP s_tiltV
  by_cases h : s_wTilt (A 151) r u < 0
  · rw [if_pos h, if_pos h, if_pos h]
  · have w := s_wTilt_0 (show s_wTilt (A 151) r u = 0 by omega)
    have q := (s_pt_b ok (r := r) (by omega) (by omega)).2.2
    rw [if_neg h, if_neg h, if_neg h, if_neg (by omega), s_up_rec]
theorem s_k_grant {φ : Int → Int} (ok : s_ok φ) (p : s_pz φ) (a b h u : Int) : s_opk φ (s_grantP φ a b h u) (s_grantV φ a b h u) := by
  have w : -2 ≤ s_wGrant φ a b h u ∧ s_wGrant φ a b h u ≤ 0 := by unfold s_wGrant; omega
  have c0 := ok.1
  unfold s_opk s_grantP s_grantV
  by_cases g : s_wGrant φ a b h u < 0
  · rw [if_pos g, if_pos g]; exact ⟨fun _ => rfl, fun q => by omega⟩
  · have e : (0 ≤ a ∧ a < φ 0) ∧ (0 ≤ b ∧ b < φ 0) ∧ (0 ≤ h ∧ h < 10) ∧ (0 ≤ u ∧ u ≤ 999) := by unfold s_wGrant at g; omega
    rw [if_neg g, if_neg g]
    have q := s_rt_b ok (a := a) (b := b) (h := h) (by omega) (by omega) (by omega) (by omega) (by omega) (by omega)
    exact ⟨fun g => by omega, fun _ => ⟨s_ok_rt ok (by omega) (by omega) (by omega) (by omega) (by omega) (by omega) (by omega) (by omega), s_pz_set ok p (by omega)⟩⟩
theorem s_a_grant {A : q_S} (ok : s_ok (A 151)) (a b h u : Int) : s_aft A (s_grantP (A 151) a b h u) (s_grantV (A 151) a b h u) = s_grantS A a b h u := by
  have c0 := ok.1
  unfold s_aft s_grantS s_grantP s_grantV
  by_cases g : s_wGrant (A 151) a b h u < 0
  · rw [if_pos g, if_pos g, if_pos g]
  · have e : (0 ≤ a ∧ a < A 151 0) ∧ (0 ≤ b ∧ b < A 151 0) ∧ (0 ≤ h ∧ h < 10) ∧ (0 ≤ u ∧ u ≤ 999) := by unfold s_wGrant at g; omega
    have q := s_rt_b ok (a := a) (b := b) (h := h) (by omega) (by omega) (by omega) (by omega) (by omega) (by omega)
    rw [if_neg g, if_neg g, if_neg g, if_neg (by omega), s_up_rec]
theorem s_k_wind {φ : Int → Int} (ok : s_ok φ) (p : s_pz φ) (h u : Int) : s_opk φ (s_windP φ h u) (s_windV φ h u) := by
  have w : -2 ≤ s_wWind h u ∧ s_wWind h u ≤ 0 := by unfold s_wWind; omega
  unfold s_opk s_windP s_windV
  by_cases g : s_wWind h u < 0
  · rw [if_pos g, if_pos g]; exact ⟨fun _ => rfl, fun q => by omega⟩
  · have e : (0 ≤ h ∧ h < 10) ∧ (0 ≤ u ∧ u ≤ 9) := by unfold s_wWind at g; omega
    rw [if_neg g, if_neg g]
    have q := ok.2.2.2.2.1 h e.1.1 e.1.2
    exact ⟨fun g => by omega, fun _ => ⟨s_ok_set ok (Or.inl (by omega)), s_pz_set ok p (by omega)⟩⟩
theorem s_a_wind {A : q_S} (ok : s_ok (A 151)) (h u : Int) : s_aft A (s_windP (A 151) h u) (s_windV (A 151) h u) = s_windS A h u := by
  unfold s_aft s_windS s_windP s_windV
  by_cases g : s_wWind h u < 0
  · rw [if_pos g, if_pos g, if_pos g]
  · have e : (0 ≤ h ∧ h < 10) ∧ (0 ≤ u ∧ u ≤ 9) := by unfold s_wWind at g; omega
    have q := ok.2.2.2.2.1 h e.1.1 e.1.2
    rw [if_neg g, if_neg g, if_neg g, if_neg (by omega), s_up_rec]
theorem s_k_stow {φ : Int → Int} (ok : s_ok φ) (p : s_pz φ) (u : Int) : s_opk φ (s_stowP φ u) (s_stowV φ u) := by
  have q := ok.2.1
  unfold s_opk s_stowP s_stowV
  by_cases g : ¬ (1 ≤ u ∧ u ≤ 10)
  · rw [if_pos g, if_pos g]; exact ⟨fun _ => rfl, fun q => by omega⟩
  · rw [if_neg g, if_neg g]
    exact ⟨fun g => by omega, fun _ => ⟨s_ok_set ok (Or.inl (by omega)), s_pz_set ok p (by omega)⟩⟩
theorem s_a_stow {A : q_S} (ok : s_ok (A 151)) (u : Int) : s_aft A (s_stowP (A 151) u) (s_stowV (A 151) u) = s_stowS A u := by
  have q := ok.2.1
  unfold s_aft s_stowS s_stowP s_stowV
  by_cases g : ¬ (1 ≤ u ∧ u ≤ 10)
  · rw [if_pos g, if_pos g, if_pos g, if_pos (by omega)]
  · rw [if_neg g, if_neg g, if_neg g, if_neg (by omega), s_up_rec]
theorem s_rowV_c {φ : Int → Int} (ok : s_ok φ) (p l u : Int) : s_rowV φ p l u < 0 ∨ (s_rowV φ p l u = φ 0 ∧ φ 0 < 6 ∧ (0 ≤ p ∧ p ≤ 200) ∧ (1 ≤ l ∧ l ≤ 20) ∧ (0 ≤ u ∧ u ≤ 4)) := by
  have c0 := ok.1
  unfold s_rowV
  by_cases h1 : ¬ ((0 ≤ p ∧ p ≤ 200) ∧ (1 ≤ l ∧ l ≤ 20) ∧ (0 ≤ u ∧ u ≤ 4))
  · rw [if_pos h1]; omega
  · rw [if_neg h1]
    by_cases h2 : φ 0 = 6
    · rw [if_pos h2]; omega
    · rw [if_neg h2]
      by_cases h3 : s_taken φ p
      · rw [q_if_t h3]; omega
      · rw [q_if_f h3]; omega
theorem s_k_row {φ : Int → Int} (ok : s_ok φ) (pp : s_pz φ) (p l u : Int) : s_opk φ (s_rowP φ p l u) (s_rowV φ p l u) := by
  have c0 := ok.1
  have c := s_rowV_c ok p l u
  unfold s_opk s_rowP
  by_cases g : s_rowV φ p l u < 0
  · rw [if_pos g]; exact ⟨fun _ => rfl, fun q => by omega⟩
  · rw [if_neg g]
    have c := c.resolve_left g
    refine ⟨fun g => by omega, fun _ => ⟨?_, s_pz_row ok pp c.2.1⟩⟩
    refine s_ok_set (s_ok_set (s_ok_set (s_ok_set (s_ok_set ok ?_) ?_) ?_) ?_) ?_
    · exact Or.inr (Or.inr (Or.inr ⟨φ 0, 0, by omega, by omega, by omega, by omega⟩))
    · exact Or.inr (Or.inr (Or.inr ⟨φ 0, 1, by omega, by omega, by omega, by omega⟩))
    · exact Or.inr (Or.inr (Or.inr ⟨φ 0, 2, by omega, by omega, by omega, by omega⟩))
    · exact Or.inr (Or.inr (Or.inr ⟨φ 0, 3, by omega, by omega, by omega, by omega⟩))
    · exact Or.inl (by omega)
theorem s_a_row {A : q_S} (ok : s_ok (A 151)) (p l u : Int) : s_aft A (s_rowP (A 151) p l u) (s_rowV (A 151) p l u) = s_rowS A p l u := by
  unfold s_aft s_rowS s_rowP
  by_cases g : s_rowV (A 151) p l u < 0
  · rw [if_pos g, if_pos g]
  · rw [if_neg g, if_neg g, if_neg g]
    unfold s_built
    simp only [q_up_w, q_w1_s, q_w1_w1, s_rec_151]
theorem s_wAsk_b (φ : Int → Int) (a h u p : Int) : -4 ≤ s_wAsk φ a h u p ∧ s_wAsk φ a h u p ≤ 0 := by unfold s_wAsk; omega
theorem s_wBid_b (φ : Int → Int) (b a h u p : Int) : -4 ≤ s_wBid φ b a h u p ∧ s_wBid φ b a h u p ≤ 0 := by unfold s_wBid; omega
theorem s_k_ask {φ : Int → Int} (ok : s_ok φ) (pp : s_pz φ) (a h u p : Int) : s_opk φ (s_askQ φ a h u p) (s_askV φ a h u p) := by
  have c3 := ok.2.2.1
  have b := s_wAsk_b φ a h u p
  unfold s_opk s_askQ s_askV
  by_cases g : s_wAsk φ a h u p < 0
  · rw [if_pos g, if_pos g]; exact ⟨fun _ => rfl, fun q => by omega⟩
  · rw [if_neg g, if_neg g]
    exact ⟨fun g => by omega, fun _ => ⟨s_ok_ask ok (by omega), s_pz_ask ok pp (by omega)⟩⟩
theorem s_a_ask {A : q_S} (ok : s_ok (A 151)) (a h u p : Int) : s_aft A (s_askQ (A 151) a h u p) (s_askV (A 151) a h u p) = s_askS A a h u p := by
  have c3 := ok.2.2.1
  unfold s_aft s_askS s_askQ s_askV
  by_cases g : s_wAsk (A 151) a h u p < 0
  · rw [if_pos g, if_pos g, if_pos g]
  · rw [if_neg g, if_neg g, if_neg g, if_neg (by omega), s_asked_w, s_rec_151]
theorem s_k_bid {φ : Int → Int} (ok : s_ok φ) (pp : s_pz φ) (b a h u p : Int) : s_opk φ (s_bidQ φ b a h u p) (s_bidV φ b a h u p) := by
  have c3 := ok.2.2.2.1
  have w := s_wBid_b φ b a h u p
  unfold s_opk s_bidQ s_bidV
  by_cases g : s_wBid φ b a h u p < 0
  · rw [if_pos g, if_pos g]; exact ⟨fun _ => rfl, fun q => by omega⟩
  · rw [if_neg g, if_neg g]
    exact ⟨fun g => by omega, fun _ => ⟨s_ok_bid ok (by omega), s_pz_bid ok pp (by omega)⟩⟩
theorem s_a_bid {A : q_S} (ok : s_ok (A 151)) (b a h u p : Int) : s_aft A (s_bidQ (A 151) b a h u p) (s_bidV (A 151) b a h u p) = s_bidS A b a h u p := by
  have c3 := ok.2.2.2.1
  unfold s_aft s_bidS s_bidQ s_bidV
  by_cases g : s_wBid (A 151) b a h u p < 0
  · rw [if_pos g, if_pos g, if_pos g]
  · rw [if_neg g, if_neg g, if_neg g, if_neg (by omega), s_bought_w, s_rec_151]
theorem s_k_mat {φ : Int → Int} (ok : s_ok φ) (pp : s_pz φ) : s_opk φ (s_matP φ) (s_matV φ) := by
  have h := s_pz_mat ok pp
  exact ⟨fun g => by have := h.2; omega, fun _ => ⟨s_ok_mat ok, h.1⟩⟩
theorem s_a_mat {A : q_S} (ok : s_ok (A 151)) (pp : s_pz (A 151)) : s_aft A (s_matP (A 151)) (s_matV (A 151)) = q_w1 (s_rec A) (s_matP (A 151)) := by
  have h := (s_pz_mat ok pp).2
  exact if_neg (by omega)
/-- an offer taken back -/
noncomputable def s_backP (φ : Int → Int) (k n : Int) : Int → Int := if s_backV φ k n < 0 then φ else if k = 0 then s_dpA φ n else s_dpB φ n
theorem s_k_back {φ : Int → Int} (ok : s_ok φ) (pp : s_pz φ) (k n : Int) : s_opk φ (s_backP φ k n) (s_backV φ k n) := by
  have c3 := ok.2.2.1
  have c4 := ok.2.2.2.1
  unfold s_opk s_backP
  by_cases g : s_backV φ k n < 0
  · rw [if_pos g]; exact ⟨fun _ => rfl, fun q => by omega⟩
  · rw [if_neg g]
    refine ⟨fun q => by omega, fun _ => ?_⟩
    have e : (0 ≤ k ∧ k ≤ 1) ∧ (0 ≤ n ∧ n < φ (3 + k)) := by unfold s_backV at g; omega
    rcases (show k = 0 ∨ k = 1 by omega) with rfl | rfl
    · rw [if_pos rfl]; exact ⟨s_ok_dpA ok e.2.1 e.2.2, s_pz_dpA ok pp e.2.1 e.2.2⟩
    · rw [if_neg (by decide)]; exact ⟨s_ok_dpB ok e.2.1 e.2.2, s_pz_dpB ok pp e.2.1 e.2.2⟩
theorem s_a_back {A : q_S} (k n : Int) : s_aft A (s_backP (A 151) k n) (s_backV (A 151) k n) = s_backS A k n := by
  unfold s_aft s_backP s_backS
  by_cases g : s_backV (A 151) k n < 0
  · rw [if_pos g, if_pos g]
  · rw [if_neg g, if_neg g, if_neg g]
    by_cases e : k = 0
    · rw [if_pos e, if_pos e, s_dropA_w, s_rec_151]
    · rw [if_neg e, if_neg e, s_dropB_w, s_rec_151]
theorem s_J_op {S S2 A : q_S} {ψ : Int → Int} {v : Int} (J : s_Jc S A) (F : s_F S2 1 ψ) (o : s_offX (s_mk S) S2) (k : s_opk (A 151) ψ v) : s_Jc (s_kpS S2 v) (s_aft A ψ v) ∧ s_offM S (s_kpS S2 v) := s_J_keep J F o k.1 k.2
theorem s_tbL_hi {b : Int} (b0 : 0 ≤ b) (b1 : b < 10) (n : Nat) : ∀ x : (Int → Int) × Int × Int, s_ok x.1 → 0 ≤ x.2.1 → (s_tbL b n x).2.2 ≤ x.2.2 + s_bd x.1 b 2 := by
  induction n with
  | zero => exact fun x ok _ => by have := (s_bd_b ok b0 b1).2.2.1; show x.2.2 ≤ _; omega
  | succ n ih =>
    intro x ok h0
    have hb := s_bd_b ok b0 b1
    by_cases h : s_na x.1 b ≠ -6 ∧ 0 < x.2.1 ∧ 0 < s_bd x.1 b 2
    · have hn : 0 ≤ s_na x.1 b ∧ s_na x.1 b < x.1 3 ∧ s_suit x.1 b (s_na x.1 b) := (s_na_b ok b).resolve_left h.1
      have h3 := ok.2.2.1
      have ha := s_as_b ok hn.1 (by omega)
      have hu : 0 ≤ s_tu x b ∧ s_tu x b ≤ s_as x.1 (s_na x.1 b) 2 ∧ s_tu x b ≤ s_bd x.1 b 2 ∧ s_tu x b ≤ x.2.1 := by unfold s_tu; omega
      rw [s_tbL_t h]
      have r := ih (s_trd x.1 (s_na x.1 b) b (s_tu x b), x.2.1 - s_tu x b, x.2.2 + s_tu x b) (s_ok_trd ok hn.1 (by omega) b0 b1 hu.1 hu.2.1 hu.2.2.1) (by show 0 ≤ x.2.1 - s_tu x b; omega)
      have e : s_bd (s_trd x.1 (s_na x.1 b) b (s_tu x b)) b 2 = s_bd x.1 b 2 - s_tu x b := s_trd_b ok hn.1 (by omega) b0 b1 hu.1 hu.2.2.1
      have r2 : (s_tbL b n (s_trd x.1 (s_na x.1 b) b (s_tu x b), x.2.1 - s_tu x b, x.2.2 + s_tu x b)).2.2 ≤ x.2.2 + s_tu x b + s_bd (s_trd x.1 (s_na x.1 b) b (s_tu x b)) b 2 := r
      omega
    · rw [s_tbL_f h]
      omega
theorem s_tbV_hi {φ : Int → Int} (ok : s_ok φ) {b : Int} (b0 : 0 ≤ b) (b1 : b < 10) : s_tbV φ b ≤ 200 := by
  have hr := s_ri_v ok b0 b1
  have hb := s_bd_b ok b0 b1
  have h : s_tbV φ b ≤ 0 + s_bd φ b 2 := s_tbL_hi b0 b1 201 (s_x0 φ b) ok (by show 0 ≤ 999 - φ (s_ri φ b); omega)
  omega
theorem s_mtI_hi {q : Int} (n : Nat) : ∀ x : (Int → Int) × Int, s_ok x.1 → n ≤ x.1 4 → (s_mtI q x n).2 ≤ x.2 + 200 * n := by
  induction n with
  | zero => exact fun x _ _ => by show x.2 ≤ _; omega
  | succ n ih =>
    intro x ok hn
    have c4 := ok.2.2.2.1
    have h := ih x ok (by omega)
    have h1 := s_ok_mtI (p := q) n (by omega) x ok
    by_cases e : s_pob (s_mtI q x n).1 n = q
    · rw [show s_mtI q x (n + 1) = (s_tbP (s_mtI q x n).1 n, (s_mtI q x n).2 + s_tbV (s_mtI q x n).1 n) from if_pos e]
      have h2 := s_tbV_hi h1.1 (b := n) (by omega) (by omega)
      show (s_mtI q x n).2 + s_tbV (s_mtI q x n).1 n ≤ _
      omega
    · rw [show s_mtI q x (n + 1) = s_mtI q x n from if_neg e]
      omega
theorem s_mtP_hi {x : (Int → Int) × Int} (ok : s_ok x.1) (n : Nat) : (s_mtP x n).2 ≤ x.2 + 2000 * n := by
  have c4 := ok.2.2.2.1
  induction n with
  | zero => show x.2 ≤ _; omega
  | succ n ih =>
    have h1 := s_ok_mtP ok n
    have h := s_mtI_hi (q := n) (x.1 4).toNat (s_mtP x n) h1.1 (by rw [h1.2 4 (by decide)]; omega)
    show (s_mtI n (s_mtP x n) (x.1 4).toNat).2 ≤ _
    omega
theorem s_rg_mat {φ : Int → Int} (ok : s_ok φ) (pp : s_pz φ) : q_rg (s_matV φ) := by
  have c4 := ok.2.2.2.1
  have h := (s_pz_mat ok pp).2
  have h2 : s_matV φ ≤ 0 + 2000 * ((φ 4).toNat : Int) := s_mtP_hi (x := (φ, 0)) ok (φ 4).toNat
  exact ⟨by omega, by omega⟩
theorem s_rg_tilt {φ : Int → Int} (ok : s_ok φ) (r u : Int) : q_rg (s_tiltV φ r u) := by
  have b := s_wTilt_b φ r u
  have c0 := ok.1
  unfold s_tiltV
  by_cases h : s_wTilt φ r u < 0
  · rw [if_pos h]; exact ⟨by omega, by omega⟩
  · have w := s_wTilt_0 (show s_wTilt φ r u = 0 by omega)
    have q := (s_pt_b ok (r := r) (by omega) (by omega)).2.2
    rw [if_neg h]; exact ⟨by omega, by omega⟩
theorem s_rg_grant {φ : Int → Int} (ok : s_ok φ) (a b h u : Int) : q_rg (s_grantV φ a b h u) := by
  have w : -2 ≤ s_wGrant φ a b h u ∧ s_wGrant φ a b h u ≤ 0 := by unfold s_wGrant; omega
  have c0 := ok.1
  unfold s_grantV
  by_cases g : s_wGrant φ a b h u < 0
  · rw [if_pos g]; exact ⟨by omega, by omega⟩
  · have e : (0 ≤ a ∧ a < φ 0) ∧ (0 ≤ b ∧ b < φ 0) ∧ (0 ≤ h ∧ h < 10) := by unfold s_wGrant at g; omega
    have q := s_rt_b ok (a := a) (b := b) (h := h) (by omega) (by omega) (by omega) (by omega) (by omega) (by omega)
    rw [if_neg g]; exact ⟨by omega, by omega⟩
theorem s_rg_wind {φ : Int → Int} (ok : s_ok φ) (h u : Int) : q_rg (s_windV φ h u) := by
  have w : -2 ≤ s_wWind h u ∧ s_wWind h u ≤ 0 := by unfold s_wWind; omega
  unfold s_windV
  by_cases g : s_wWind h u < 0
  · rw [if_pos g]; exact ⟨by omega, by omega⟩
  · have e : (0 ≤ h ∧ h < 10) := by unfold s_wWind at g; omega
    have q := ok.2.2.2.2.1 h e.1 e.2
    rw [if_neg g]; exact ⟨by omega, by omega⟩
theorem s_rg_stow {φ : Int → Int} (ok : s_ok φ) (u : Int) : q_rg (s_stowV φ u) := by
  have q := ok.2.1
  unfold s_stowV
  split <;> exact ⟨by omega, by omega⟩
theorem s_rowV_lo {φ : Int → Int} (ok : s_ok φ) (p l u : Int) : -5 ≤ s_rowV φ p l u := by
  have c0 := ok.1
  unfold s_rowV
  split
  · decide
  · split
    · decide
    · by_cases h3 : s_taken φ p
      · rw [q_if_t h3]; decide
      · rw [q_if_f h3]; omega
theorem s_rg_row {φ : Int → Int} (ok : s_ok φ) (p l u : Int) : q_rg (s_rowV φ p l u) := by
  have c0 := ok.1
  have a := s_rowV_lo ok p l u
  rcases s_rowV_c ok p l u with c | c <;> exact ⟨by omega, by omega⟩
theorem s_rg_ask {φ : Int → Int} (ok : s_ok φ) (a h u p : Int) : q_rg (s_askV φ a h u p) := by
  have c3 := ok.2.2.1
  have b := s_wAsk_b φ a h u p
  unfold s_askV
  split <;> exact ⟨by omega, by omega⟩
theorem s_rg_bid {φ : Int → Int} (ok : s_ok φ) (b a h u p : Int) : q_rg (s_bidV φ b a h u p) := by
  have c3 := ok.2.2.2.1
  have w := s_wBid_b φ b a h u p
  unfold s_bidV
  split <;> exact ⟨by omega, by omega⟩
