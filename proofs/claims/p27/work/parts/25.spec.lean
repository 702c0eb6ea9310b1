/-! what an order of the pad does -/
theorem q_w1_self {S : q_S} : q_w1 S (S 151) = S := by
  funext a
  by_cases e : a = 151
  · rw [e, q_w1_s]
  · rw [q_w1_n e]
theorem q_up_w {S : q_S} {j v : Int} : q_up S 151 j v = q_w1 S (s_set (S 151) j v) := by
  funext a z
  unfold q_up q_w1 s_set
  by_cases e : a = 151
  · subst e; by_cases e2 : z = j <;> simp [e2]
  · simp [e]
theorem q_w1_w1 {S : q_S} {φ ψ : Int → Int} : q_w1 (q_w1 S φ) ψ = q_w1 S ψ := by
  funext a
  by_cases e : a = 151
  · rw [e, q_w1_s, q_w1_s]
  · rw [q_w1_n e, q_w1_n e, q_w1_n e]
def s_askP (φ : Int → Int) (a h u p : Int) : Int → Int := s_set (s_set (s_set (s_set (s_set φ (399 + 4 * φ 3 + 0) a) (399 + 4 * φ 3 + 1) h) (399 + 4 * φ 3 + 2) u) (399 + 4 * φ 3 + 3) p) 3 (φ 3 + 1)
def s_bidP (φ : Int → Int) (b a h u p : Int) : Int → Int := s_set (s_set (s_set (s_set (s_set (s_set φ (439 + 5 * φ 4 + 0) a) (439 + 5 * φ 4 + 1) h) (439 + 5 * φ 4 + 2) u) (439 + 5 * φ 4 + 3) p) (439 + 5 * φ 4 + 4) b) 4 (φ 4 + 1)
theorem s_asked_w {S : q_S} {a h u p : Int} : s_asked S a h u p = q_w1 S (s_askP (S 151) a h u p) := by
  unfold s_asked s_askP
  simp only [q_up_w, q_w1_s, q_w1_w1]
theorem s_bought_w {S : q_S} {b a h u p : Int} : s_bought S b a h u p = q_w1 S (s_bidP (S 151) b a h u p) := by
  unfold s_bought s_bidP
  simp only [q_up_w, q_w1_s, q_w1_w1]
def s_doV (φ : Int → Int) (l a b c e f : Int) : Int := if l = 116 then (if s_wTilt φ a b = 0 then 1 else 0) else if l = 119 then 1 else if l = 97 then (if s_wAsk φ a c e f = 0 then 1 else 0) else if l = 98 then (if s_wBid φ a b c e f = 0 then 1 else 0) else 1
noncomputable def s_doP (φ : Int → Int) (l a b c e f : Int) : Int → Int := if l = 116 then (if s_wTilt φ a b = 0 then s_set φ (15 + 4 * a + 2) b else φ) else if l = 119 then s_set φ (5 + a) b else if l = 97 then (if s_wAsk φ a c e f = 0 then s_askP φ a c e f else φ) else if l = 98 then (if s_wBid φ a b c e f = 0 then s_bidP φ a b c e f else φ) else s_matP φ
theorem s_doV_b (φ : Int → Int) (l a b c e f : Int) : s_doV φ l a b c e f = 0 ∨ s_doV φ l a b c e f = 1 := by unfold s_doV; omega
theorem s_wAsk_0 {φ : Int → Int} {a h u p : Int} (q : s_wAsk φ a h u p = 0) : (0 ≤ a ∧ a < φ 0) ∧ (0 ≤ h ∧ h < 10) ∧ (1 ≤ u ∧ u ≤ 200) ∧ (0 ≤ p ∧ p ≤ 999) ∧ φ 3 ≠ 10 := by unfold s_wAsk at q; omega
theorem s_wBid_0 {φ : Int → Int} {b a h u p : Int} (q : s_wBid φ b a h u p = 0) : (0 ≤ b ∧ b < φ 0) ∧ (0 ≤ a ∧ a < φ 0) ∧ (0 ≤ h ∧ h < 10) ∧ (1 ≤ u ∧ u ≤ 200) ∧ (0 ≤ p ∧ p ≤ 999) ∧ φ 4 ≠ 10 := by unfold s_wBid at q; omega
theorem s_wTilt_0 {φ : Int → Int} {r u : Int} (q : s_wTilt φ r u = 0) : (0 ≤ r ∧ r < φ 0) ∧ (0 ≤ u ∧ u ≤ 4) := by unfold s_wTilt at q; omega
/-! all stays in its bounds -/
theorem s_ok_set {φ : Int → Int} (ok : s_ok φ) {j v : Int} (h : (j = 2 ∨ (j = 3 ∧ 0 ≤ v ∧ v ≤ 10) ∨ (j = 4 ∧ 0 ≤ v ∧ v ≤ 10) ∨ (j = 0 ∧ 0 ≤ v ∧ v ≤ 6) ∨ (j = 1 ∧ 1 ≤ v ∧ v ≤ 10) ∨ (5 ≤ j ∧ j < 15 ∧ 0 ≤ v ∧ v ≤ 9)) ∨ (∃ i p, j = 399 + 4 * i + p ∧ 0 ≤ i ∧ i < 10 ∧ ((p = 0 ∧ 0 ≤ v ∧ v ≤ 5) ∨ (p = 1 ∧ 0 ≤ v ∧ v ≤ 9) ∨ (p = 2 ∧ 0 ≤ v ∧ v ≤ 200) ∨ (p = 3 ∧ 0 ≤ v ∧ v ≤ 999))) ∨ (∃ i p, j = 439 + 5 * i + p ∧ 0 ≤ i ∧ i < 10 ∧ ((p = 0 ∧ 0 ≤ v ∧ v ≤ 5) ∨ (p = 1 ∧ 0 ≤ v ∧ v ≤ 9) ∨ (p = 2 ∧ 0 ≤ v ∧ v ≤ 200) ∨ (p = 3 ∧ 0 ≤ v ∧ v ≤ 999) ∨ (p = 4 ∧ 0 ≤ v ∧ v ≤ 5))) ∨
    (∃ i p, j = 15 + 4 * i + p ∧ 0 ≤ i ∧ i < 6 ∧ ((p = 0 ∧ 0 ≤ v ∧ v ≤ 200) ∨ (p = 1 ∧ 0 ≤ v ∧ v ≤ 20) ∨ (p = 2 ∧ 0 ≤ v ∧ v ≤ 4) ∨ p = 3))) : s_ok (s_set φ j v) := by
  rw [s_ok_iff] at ok ⊢
  obtain ⟨k1, k2, k3, k4, k5, k6, k7, k8, k9⟩ := ok
  have hj : ∀ z, s_set φ j v z = if z = j then v else φ z := fun z => rfl
  refine ⟨?_, ?_, ?_, ?_, fun h' x y => ?_, fun r' x y => ?_, fun a' b' h' x1 x2 x3 x4 x5 x6 => ?_, fun i' x y => ?_, fun i' x y => ?_⟩
  · rw [hj]; rcases h with h | ⟨i, p, h⟩ | ⟨i, p, h⟩ | ⟨i, p, h⟩ <;> omega
  · rw [hj]; rcases h with h | ⟨i, p, h⟩ | ⟨i, p, h⟩ | ⟨i, p, h⟩ <;> omega
  · rw [hj]; rcases h with h | ⟨i, p, h⟩ | ⟨i, p, h⟩ | ⟨i, p, h⟩ <;> omega
  · rw [hj]; rcases h with h | ⟨i, p, h⟩ | ⟨i, p, h⟩ | ⟨i, p, h⟩ <;> omega
  · have q := k5 h' x y
    rw [hj]; rcases h with h | ⟨i, p, h⟩ | ⟨i, p, h⟩ | ⟨i, p, h⟩ <;> omega
  · have q := k6 r' x y
    rw [hj, hj, hj]; rcases h with h | ⟨i, p, h⟩ | ⟨i, p, h⟩ | ⟨i, p, h⟩ <;> omega
  · have q := k7 a' b' h' x1 x2 x3 x4 x5 x6
    rw [hj]; rcases h with h | ⟨i, p, h⟩ | ⟨i, p, h⟩ | ⟨i, p, h⟩ <;> omega
  · have q := k8 i' x y
    rw [hj, hj, hj, hj]; rcases h with h | ⟨i, p, h⟩ | ⟨i, p, h⟩ | ⟨i, p, h⟩ <;> omega
  · have q := k9 i' x y
    rw [hj, hj, hj, hj, hj]; rcases h with h | ⟨i, p, h⟩ | ⟨i, p, h⟩ | ⟨i, p, h⟩ <;> omega
theorem s_ok_ask {φ : Int → Int} (ok : s_ok φ) {a h u p : Int} (w : s_wAsk φ a h u p = 0) : s_ok (s_askP φ a h u p) := by
  have q := s_wAsk_0 w
  have c0 := ok.1
  have c3 := ok.2.2.1
  unfold s_askP
  refine s_ok_set (s_ok_set (s_ok_set (s_ok_set (s_ok_set ok ?_) ?_) ?_) ?_) ?_
  · exact Or.inr (Or.inl ⟨φ 3, 0, by omega, by omega, by omega, by omega⟩)
  · exact Or.inr (Or.inl ⟨φ 3, 1, by omega, by omega, by omega, by omega⟩)
  · exact Or.inr (Or.inl ⟨φ 3, 2, by omega, by omega, by omega, by omega⟩)
  · exact Or.inr (Or.inl ⟨φ 3, 3, by omega, by omega, by omega, by omega⟩)
  · exact Or.inl (by omega)
theorem s_ok_bid {φ : Int → Int} (ok : s_ok φ) {b a h u p : Int} (w : s_wBid φ b a h u p = 0) : s_ok (s_bidP φ b a h u p) := by
  have q := s_wBid_0 w
  have c0 := ok.1
  have c3 := ok.2.2.2.1
  unfold s_bidP
  refine s_ok_set (s_ok_set (s_ok_set (s_ok_set (s_ok_set (s_ok_set ok ?_) ?_) ?_) ?_) ?_) ?_
  · exact Or.inr (Or.inr (Or.inl ⟨φ 4, 0, by omega, by omega, by omega, by omega⟩))
  · exact Or.inr (Or.inr (Or.inl ⟨φ 4, 1, by omega, by omega, by omega, by omega⟩))
  · exact Or.inr (Or.inr (Or.inl ⟨φ 4, 2, by omega, by omega, by omega, by omega⟩))
  · exact Or.inr (Or.inr (Or.inl ⟨φ 4, 3, by omega, by omega, by omega, by omega⟩))
  · exact Or.inr (Or.inr (Or.inl ⟨φ 4, 4, by omega, by omega, by omega, by omega⟩))
  · exact Or.inl (by omega)
theorem s_ok_mtI {p : Int} (n : Nat) (hn : n ≤ 10) : ∀ x : (Int → Int) × Int, s_ok x.1 → s_ok (s_mtI p x n).1 ∧ ∀ z, z < 15 → (s_mtI p x n).1 z = x.1 z := by
  induction n with
  | zero => exact fun x ok => ⟨ok, fun _ _ => rfl⟩
  | succ n ih =>
    intro x ok
    have h := ih (by omega) x ok
    by_cases q : s_pob (s_mtI p x n).1 n = p
    · rw [show s_mtI p x (n + 1) = (s_tbP (s_mtI p x n).1 n, (s_mtI p x n).2 + s_tbV (s_mtI p x n).1 n) from if_pos q]
      have h2 := s_tbP_k h.1 (b := n) (by omega) (by omega)
      exact ⟨h2.1, fun z hz => (h2.2 z hz).trans (h.2 z hz)⟩
    · rw [show s_mtI p x (n + 1) = s_mtI p x n from if_neg q]
      exact h
theorem s_ok_mtP {x : (Int → Int) × Int} (ok : s_ok x.1) (n : Nat) : s_ok (s_mtP x n).1 ∧ ∀ z, z < 15 → (s_mtP x n).1 z = x.1 z := by
  have c4 := ok.2.2.2.1
  induction n with
  | zero => exact ⟨ok, fun _ _ => rfl⟩
  | succ n ih =>
    have h2 := s_ok_mtI (p := n) (x.1 4).toNat (by omega) (s_mtP x n) ih.1
    exact ⟨h2.1, fun z hz => (h2.2 z hz).trans (ih.2 z hz)⟩
theorem s_ok_rmA (n : Nat) : ∀ φ : Int → Int, s_ok φ → n ≤ φ 3 → s_ok (s_rmA n φ) := by
  induction n with
  | zero => exact fun φ ok _ => ok
  | succ n ih =>
    intro φ ok hn
    show s_ok (s_rmA n (if s_as φ n 2 = 0 then s_dpA φ n else φ))
    split
    · exact ih _ (s_ok_dpA ok (by omega) (by omega)) (by rw [s_dpA_3]; omega)
    · exact ih _ ok (by omega)
theorem s_ok_rmB (n : Nat) : ∀ φ : Int → Int, s_ok φ → n ≤ φ 4 → s_ok (s_rmB n φ) := by
  induction n with
  | zero => exact fun φ ok _ => ok
  | succ n ih =>
    intro φ ok hn
    show s_ok (s_rmB n (if s_bd φ n 2 = 0 then s_dpB φ n else φ))
    split
    · exact ih _ (s_ok_dpB ok (by omega) (by omega)) (by rw [s_dpB_4]; omega)
    · exact ih _ ok (by omega)
theorem s_ok_mat {φ : Int → Int} (ok : s_ok φ) : s_ok (s_matP φ) := by
  have c4 := ok.2.2.2.1
  have h := s_ok_mtP (x := (φ, 0)) ok (φ 4).toNat
  have h4 : (s_mtP (φ, 0) (φ 4).toNat).1 4 = φ 4 := h.2 4 (by omega)
  have hB : s_ok (s_matB φ) := s_ok_rmB _ _ h.1 (by omega)
  have c3 := hB.2.2.1
  have hA : s_ok (s_matA φ) := s_ok_rmA _ _ hB (by omega)
  exact s_ok_set hA (Or.inl (Or.inl rfl))
theorem s_ok_do {φ : Int → Int} (ok : s_ok φ) {l a b c e f : Int} (h : l = 119 → (0 ≤ a ∧ a ≤ 9) ∧ (0 ≤ b ∧ b ≤ 9)) : s_ok (s_doP φ l a b c e f) := by
  have c0 := ok.1
  unfold s_doP
  split
  · split
    · rename_i q
      have q := s_wTilt_0 q
      exact s_ok_tilt ok (by omega) (by omega) (by omega) (by omega)
    · exact ok
  · split
    · exact s_ok_set ok (Or.inl (by omega))
    · split
      · split
        · exact s_ok_ask ok (by assumption)
        · exact ok
      · split
        · split
          · exact s_ok_bid ok (by assumption)
          · exact ok
        · exact s_ok_mat ok
