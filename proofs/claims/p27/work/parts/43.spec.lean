/-! a bid served by the asks in their order -/
def s_sui (φ : Int → Int) (b k : Int) : Prop := s_as φ k 0 = s_bd φ b 0 ∧ s_as φ k 1 = s_bd φ b 1 ∧ s_as φ k 3 ≤ s_bd φ b 3
theorem s_set_cm {φ : Int → Int} {i j x y : Int} (h : i ≠ j) : s_set (s_set φ i x) j y = s_set (s_set φ j y) i x := by
  funext z
  unfold s_set
  by_cases e : z = j
  · rw [if_pos e, if_neg (by omega), if_pos e]
  · rw [if_neg e]
    by_cases e2 : z = i
    · rw [if_pos e2, if_pos e2]
    · rw [if_neg e2, if_neg e2, if_neg e]
theorem s_aw_cm {φ : Int → Int} {i j x v : Int} (h : i ≠ j) : s_aw (s_set φ i x) j v = s_set (s_aw φ j v) i x := by
  unfold s_aw
  rw [s_set_ne (Ne.symm h), s_set_cm h]
theorem s_set_set {φ : Int → Int} {i x y : Int} : s_set (s_set φ i x) i y = s_set φ i y := by
  funext z
  unfold s_set
  split <;> rfl
theorem s_set_self {φ : Int → Int} {i : Int} : s_set φ i (φ i) = φ := by
  funext z
  unfold s_set
  split
  · rename_i h; rw [h]
  · rfl
def s_ri (φ : Int → Int) (b : Int) : Int := 39 + 10 * (6 * s_bd φ b 4 + s_bd φ b 0) + s_bd φ b 1
noncomputable def s_tu1 (φ : Int → Int) (b k : Int) : Int := min (min (s_bd φ b 2) (s_as φ k 2)) (999 - φ (s_ri φ b))
noncomputable def s_tr1 (φ : Int → Int) (b k : Int) : Int → Int := s_set (s_trd φ k b (s_tu1 φ b k)) (s_ri φ b) (φ (s_ri φ b) + s_tu1 φ b k)
/-- the class' order of the writes of a trade -/
theorem s_tr1_e {φ : Int → Int} (ok : s_ok φ) {b k u : Int} (b0 : 0 ≤ b) (b1 : b < 10) (k0 : 0 ≤ k) (k1 : k < 10) (u0 : 0 ≤ u) (u1 : u ≤ s_bd φ b 2) (u2 : u ≤ s_as φ k 2) :
    s_set (s_set (s_aw (s_aw (s_set φ (s_ri φ b) (φ (s_ri φ b) + u)) (15 + 4 * s_bd φ b 4 + 3) (-(u * s_as φ k 3))) (15 + 4 * s_bd φ b 0 + 3) (u * s_as φ k 3)) (439 + 5 * b + 2) (s_bd φ b 2 - u)) (399 + 4 * k + 2) (s_as φ k 2 - u) = s_set (s_trd φ k b u) (s_ri φ b) (φ (s_ri φ b) + u) := by
  have hb := s_bd_b ok b0 b1
  have ha := s_as_b ok k0 k1
  have hri : 39 ≤ s_ri φ b ∧ s_ri φ b < 399 := by unfold s_ri; omega
  have eA : s_aw φ (399 + 4 * k + 2) (-u) = s_set φ (399 + 4 * k + 2) (s_as φ k 2 - u) := by
    show s_set φ _ (s_wr (s_as φ k 2 + -u)) = _
    rw [s_wr_id ⟨by omega, by omega⟩, Int.sub_eq_add_neg]
  have eB : s_aw (s_set φ (399 + 4 * k + 2) (s_as φ k 2 - u)) (439 + 5 * b + 2) (-u) = s_set (s_set φ (399 + 4 * k + 2) (s_as φ k 2 - u)) (439 + 5 * b + 2) (s_bd φ b 2 - u) := by
    unfold s_aw
    rw [s_set_ne (show 439 + 5 * b + 2 ≠ 399 + 4 * k + 2 by omega)]
    show s_set _ _ (s_wr (s_bd φ b 2 + -u)) = _
    rw [s_wr_id ⟨by omega, by omega⟩, show s_bd φ b 2 + -u = s_bd φ b 2 - u by omega]
  unfold s_trd
  rw [eA, eB]
  rw [s_aw_cm (φ := s_set φ (399 + 4 * k + 2) (s_as φ k 2 - u)) (i := 439 + 5 * b + 2) (by omega), s_aw_cm (φ := φ) (i := 399 + 4 * k + 2) (j := 15 + 4 * s_bd φ b 4 + 3) (by omega)]
  rw [s_aw_cm (i := 439 + 5 * b + 2) (j := 15 + 4 * s_bd φ b 0 + 3) (by omega), s_aw_cm (i := 399 + 4 * k + 2) (j := 15 + 4 * s_bd φ b 0 + 3) (by omega)]
  rw [s_aw_cm (i := s_ri φ b) (j := 15 + 4 * s_bd φ b 4 + 3) (by omega), s_aw_cm (i := s_ri φ b) (j := 15 + 4 * s_bd φ b 0 + 3) (by omega)]
  rw [s_set_cm (i := s_ri φ b) (j := 439 + 5 * b + 2) (by omega), s_set_cm (i := s_ri φ b) (j := 399 + 4 * k + 2) (by omega), s_set_cm (i := 439 + 5 * b + 2) (j := 399 + 4 * k + 2) (by omega)]
/-- the asks and bids of two fields are the same but for their units; all before them too but for rights and purses -/
def s_sam (φ ψ : Int → Int) : Prop := (∀ z, z < 15 → ψ z = φ z) ∧ (∀ i p, 0 ≤ i → i < 10 → 0 ≤ p → p < 4 → p ≠ 2 → s_as ψ i p = s_as φ i p) ∧ ∀ i p, 0 ≤ i → i < 10 → 0 ≤ p → p < 5 → p ≠ 2 → s_bd ψ i p = s_bd φ i p
theorem s_sam_r {φ : Int → Int} : s_sam φ φ := ⟨fun _ _ => rfl, fun _ _ _ _ _ _ _ => rfl, fun _ _ _ _ _ _ _ => rfl⟩
theorem s_sam_t {φ ψ χ : Int → Int} (h : s_sam φ ψ) (g : s_sam ψ χ) : s_sam φ χ := ⟨fun z q => (g.1 z q).trans (h.1 z q), fun i p a b c d e => (g.2.1 i p a b c d e).trans (h.2.1 i p a b c d e), fun i p a b c d e => (g.2.2 i p a b c d e).trans (h.2.2 i p a b c d e)⟩
theorem s_sam_trd {φ : Int → Int} (ok : s_ok φ) {b k u : Int} (b0 : 0 ≤ b) (b1 : b < 10) (k0 : 0 ≤ k) (k1 : k < 10) : s_sam φ (s_trd φ k b u) := by
  have hb := s_bd_b ok b0 b1
  refine ⟨fun z h => s_trd_ne (by omega) (by omega) (by omega) (by omega), fun i p h1 h2 h3 h4 h5 => ?_, fun i p h1 h2 h3 h4 h5 => ?_⟩
  · show s_trd φ k b u (399 + 4 * i + p) = _
    exact s_trd_ne (by omega) (by omega) (by omega) (by omega)
  · show s_trd φ k b u (439 + 5 * i + p) = _
    exact s_trd_ne (by omega) (by omega) (by omega) (by omega)
theorem s_sam_ri {φ : Int → Int} {j v : Int} (h0 : 39 ≤ j) (h1 : j < 399) : s_sam φ (s_set φ j v) := by
  refine ⟨fun z h => s_set_ne (by omega), fun i p h1 h2 h3 h4 h5 => ?_, fun i p h1 h2 h3 h4 h5 => ?_⟩
  · show s_set φ j v (399 + 4 * i + p) = _
    exact s_set_ne (by omega)
  · show s_set φ j v (439 + 5 * i + p) = _
    exact s_set_ne (by omega)
theorem s_sui_sam {φ ψ : Int → Int} (h : s_sam φ ψ) {b k : Int} (b0 : 0 ≤ b) (b1 : b < 10) (k0 : 0 ≤ k) (k1 : k < 10) : s_sui ψ b k ↔ s_sui φ b k := by
  unfold s_sui
  rw [h.2.1 k 0 k0 k1 (by decide) (by decide) (by decide), h.2.1 k 1 k0 k1 (by decide) (by decide) (by decide), h.2.1 k 3 k0 k1 (by decide) (by decide) (by decide), h.2.2 b 0 b0 b1 (by decide) (by decide) (by decide), h.2.2 b 1 b0 b1 (by decide) (by decide) (by decide), h.2.2 b 3 b0 b1 (by decide) (by decide) (by decide)]
theorem s_ri_sam {φ ψ : Int → Int} (h : s_sam φ ψ) {b : Int} (b0 : 0 ≤ b) (b1 : b < 10) : s_ri ψ b = s_ri φ b := by
  unfold s_ri
  rw [h.2.2 b 0 b0 b1 (by decide) (by decide) (by decide), h.2.2 b 1 b0 b1 (by decide) (by decide) (by decide), h.2.2 b 4 b0 b1 (by decide) (by decide) (by decide)]
/-- the cheapest ask that suits, the first of these -/
theorem s_naN_k {φ : Int → Int} {b k : Int} (k0 : 0 ≤ k) (hk : s_suit φ b k) (hm : ∀ j, 0 ≤ j → j < φ 3 → s_suit φ b j → s_as φ k 3 < s_as φ j 3 ∨ (s_as φ k 3 = s_as φ j 3 ∧ k ≤ j)) (n : Nat) (hn : n ≤ φ 3) : (n ≤ k → s_naN φ b n = -6 ∨ s_as φ k 3 < s_as φ (s_naN φ b n) 3) ∧ (k < n → s_naN φ b n = k) := by
  induction n with
  | zero => exact ⟨fun _ => Or.inl rfl, fun h => by omega⟩
  | succ n ih =>
    have ih := ih (by omega)
    have e : s_naN φ b (n + 1) = q_if (s_suit φ b n ∧ (s_naN φ b n = -6 ∨ s_as φ n 3 < s_as φ (s_naN φ b n) 3)) n (s_naN φ b n) := rfl
    refine ⟨fun h => ?_, fun h => ?_⟩
    · by_cases q : s_suit φ b n ∧ (s_naN φ b n = -6 ∨ s_as φ n 3 < s_as φ (s_naN φ b n) 3)
      · rw [e, q_if_t q]
        have := hm n (by omega) (by omega) q.1
        exact Or.inr (by omega)
      · rw [e, q_if_f q]
        exact ih.1 (by omega)
    · rcases (show k = n ∨ k < n by omega) with g | g
      · subst g
        rw [e, q_if_t ⟨hk, ih.1 (Int.le_refl _)⟩]
      · have g2 := ih.2 g
        rw [e, g2]
        refine q_if_f (fun q => ?_)
        have q1 := hm n (by omega) (by omega) q.1
        have q2 := q.2
        omega
/-- the field while a bid is served: the numbers, and the right that has grown -/
def s_cur (φ : Int → Int) (b : Int) (x : (Int → Int) × Int × Int) : Int → Int := s_set x.1 (s_ri φ b) (999 - x.2.1)
def s_tbM (φ : Int → Int) (b : Int) (x : (Int → Int) × Int × Int) : Prop := ∃ m : Nat, s_tbX φ b = s_tbL b m x ∧ s_bd x.1 b 2 < m
def s_tbI (φ : Int → Int) (b : Int) (x : (Int → Int) × Int × Int) (T : Int → Int) (i : Int) : Prop := s_ok x.1 ∧ (0 ≤ x.2.1 ∧ x.2.1 ≤ 999) ∧ s_sam φ x.1 ∧ s_tbM φ b x ∧ ∀ j, 0 ≤ j → j < i → s_sui φ b (T j) → s_as x.1 (T j) 2 = 0 ∨ x.2.1 = 0 ∨ s_bd x.1 b 2 = 0
theorem s_ri_b {φ : Int → Int} (ok : s_ok φ) {b : Int} (b0 : 0 ≤ b) (b1 : b < 10) : 39 ≤ s_ri φ b ∧ s_ri φ b < 399 := by
  have hb := s_bd_b ok b0 b1
  unfold s_ri
  omega
theorem s_ri_v {φ : Int → Int} (ok : s_ok φ) {b : Int} (b0 : 0 ≤ b) (b1 : b < 10) : 0 ≤ φ (s_ri φ b) ∧ φ (s_ri φ b) ≤ 999 := by
  have hb := s_bd_b ok b0 b1
  exact s_rt_b ok (a := s_bd φ b 4) (b := s_bd φ b 0) (h := s_bd φ b 1) (by omega) (by omega) (by omega) (by omega) (by omega) (by omega)
def s_x0 (φ : Int → Int) (b : Int) : (Int → Int) × Int × Int := (φ, 999 - φ (s_ri φ b), 0)
theorem s_cur_0 {φ : Int → Int} {b : Int} : s_cur φ b (s_x0 φ b) = φ := by
  unfold s_cur s_x0
  rw [show 999 - (999 - φ (s_ri φ b)) = φ (s_ri φ b) by omega]
  exact s_set_self
theorem s_tbI_0 {φ : Int → Int} (ok : s_ok φ) {b : Int} (b0 : 0 ≤ b) (b1 : b < 10) (T : Int → Int) : s_tbI φ b (s_x0 φ b) T 0 := by
  have hr := s_ri_v ok b0 b1
  have hb := s_bd_b ok b0 b1
  exact ⟨ok, ⟨by show 0 ≤ 999 - φ (s_ri φ b); omega, by show 999 - φ (s_ri φ b) ≤ 999; omega⟩, s_sam_r, ⟨201, rfl, by show s_bd φ b 2 < ((201 : Nat) : Int); omega⟩, fun j h0 h1 => by omega⟩
theorem s_tbI_n {φ : Int → Int} {b : Int} {x : (Int → Int) × Int × Int} {T : Int → Int} {i : Int} (H : s_tbI φ b x T i) (h : ¬ s_sui φ b (T i)) : s_tbI φ b x T (i + 1) := by
  refine ⟨H.1, H.2.1, H.2.2.1, H.2.2.2.1, fun j j0 j1 hs => ?_⟩
  rcases (show j < i ∨ j = i by omega) with g | g
  · exact H.2.2.2.2 j j0 g hs
  · subst g; exact absurd hs h
theorem s_aw_0 {φ : Int → Int} {j v : Int} (h : q_rg (φ j)) (hv : v = 0) : s_aw φ j v = φ := by
  subst hv
  unfold s_aw
  rw [Int.add_zero, s_wr_id h, s_set_self]
theorem s_trd_0 {φ : Int → Int} (ok : s_ok φ) (hp : ∀ r, 0 ≤ r → r < 6 → q_rg (s_pt φ r 3)) {b k u : Int} (b0 : 0 ≤ b) (b1 : b < 10) (k0 : 0 ≤ k) (k1 : k < 10) (hu : u = 0) : s_trd φ k b u = φ := by
  subst hu
  have hb := s_bd_b ok b0 b1
  have ha := s_as_b ok k0 k1
  have r1 : q_rg (φ (399 + 4 * k + 2)) := ⟨by have : 0 ≤ φ (399 + 4 * k + 2) := ha.2.2.1.1; omega, by have : φ (399 + 4 * k + 2) ≤ 200 := ha.2.2.1.2; omega⟩
  have r2 : q_rg (φ (439 + 5 * b + 2)) := ⟨by have : 0 ≤ φ (439 + 5 * b + 2) := hb.2.2.1.1; omega, by have : φ (439 + 5 * b + 2) ≤ 200 := hb.2.2.1.2; omega⟩
  unfold s_trd
  rw [s_aw_0 r1 (by decide), s_aw_0 r2 (by decide), s_aw_0 (j := 15 + 4 * s_bd φ b 4 + 3) (hp _ (by omega) (by omega)) (by rw [Int.zero_mul]; rfl), s_aw_0 (j := 15 + 4 * s_bd φ b 0 + 3) (hp _ (by omega) (by omega)) (Int.zero_mul _)]
def s_x1 (x : (Int → Int) × Int × Int) (b k u : Int) : (Int → Int) × Int × Int := (s_trd x.1 k b u, x.2.1 - u, x.2.2 + u)
theorem s_tbI_t {φ : Int → Int} {b : Int} {x : (Int → Int) × Int × Int} {T : Int → Int} {i u : Int} (H : s_tbI φ b x T i) (hp : ∀ r, 0 ≤ r → r < 6 → q_rg (s_pt x.1 r 3)) (b0 : 0 ≤ b) (b1 : b < 10) (HT : s_so (fun k => s_as φ k 3) T (φ 3)) (h3 : φ 3 ≤ 10) (i0 : 0 ≤ i) (i1 : i < φ 3) (hs : s_sui φ b (T i))
    (hu : u = min (min (s_bd x.1 b 2) (s_as x.1 (T i) 2)) x.2.1) : s_tbI φ b (s_x1 x b (T i) u) T (i + 1) := by
  obtain ⟨ok, hR, hS, hM, hD⟩ := H
  have t := HT.1 i i0 i1
  have hb := s_bd_b ok b0 b1
  have ha := s_as_b ok t.1 (show T i < 10 by omega)
  have hs2 := (s_sui_sam hS b0 b1 t.1 (show T i < 10 by omega)).mpr hs
  have hu0 : 0 ≤ u ∧ u ≤ s_as x.1 (T i) 2 ∧ u ≤ s_bd x.1 b 2 ∧ u ≤ x.2.1 := by omega
  rcases (show u = 0 ∨ 0 < u by omega) with hz | hz
  · have e : s_x1 x b (T i) u = x := by
      unfold s_x1
      rw [s_trd_0 ok hp b0 b1 t.1 (by omega) hz, hz, Int.sub_zero, Int.add_zero]
    rw [e]
    refine ⟨ok, hR, hS, hM, fun j j0 j1 hj => ?_⟩
    rcases (show j < i ∨ j = i by omega) with g | g
    · exact hD j j0 g hj
    · subst g; omega
  · have hna : s_na x.1 b = T i := by
      have e3 : x.1 3 = φ 3 := hS.1 3 (by decide)
      refine (s_naN_k t.1 ⟨hs2.1, hs2.2.1, hs2.2.2, by omega⟩ (fun j j0 j1 hj => ?_) (x.1 3).toNat (by omega)).2 (by omega)
      obtain ⟨p, p0, p1, ep⟩ := HT.2.2 j j0 (by omega)
      rw [hS.2.1 (T i) 3 t.1 (by omega) (by decide) (by decide) (by decide), hS.2.1 j 3 j0 (by omega) (by decide) (by decide) (by decide)]
      rcases (show p < i ∨ p = i ∨ i < p by omega) with g | g | g
      · have hj2 : s_sui φ b (T p) := by rw [ep]; exact (s_sui_sam hS b0 b1 j0 (by omega)).mp ⟨hj.1, hj.2.1, hj.2.2.1⟩
        have q := hD p p0 g hj2
        have q2 := hj.2.2.2
        rw [ep] at q
        omega
      · rw [← ep, g]; exact Or.inr ⟨rfl, Int.le_refl _⟩
      · have q := HT.2.1 i p i0 g p1
        rw [ep] at q
        rcases q with q | q
        · exact Or.inl q
        · exact Or.inr ⟨q.1, by omega⟩
    obtain ⟨m, em, hm⟩ := hM
    obtain ⟨m', rfl⟩ : ∃ m', m = m' + 1 := ⟨m - 1, by omega⟩
    have etu : s_tu x b = u := by unfold s_tu; rw [hna, hu]; omega
    have e2 : s_tbL b (m' + 1) x = s_tbL b m' (s_x1 x b (T i) u) := by
      have q := s_tbL_t (b := b) (n := m') (x := x) ⟨by rw [hna]; omega, by omega, by omega⟩
      rw [hna, etu] at q
      exact q
    have eb : s_bd (s_trd x.1 (T i) b u) b 2 = s_bd x.1 b 2 - u := s_trd_b ok t.1 (by omega) b0 b1 hu0.1 hu0.2.2.1
    have ea : s_as (s_trd x.1 (T i) b u) (T i) 2 = s_as x.1 (T i) 2 - u := s_trd_a ok t.1 (by omega) b0 b1 hu0.1 hu0.2.1
    refine ⟨s_ok_trd ok t.1 (by omega) b0 b1 hu0.1 hu0.2.1 hu0.2.2.1, ⟨by show 0 ≤ x.2.1 - u; omega, by show x.2.1 - u ≤ 999; omega⟩, s_sam_t hS (s_sam_trd ok b0 b1 t.1 (by omega)), ⟨m', em.trans e2, ?_⟩, fun j j0 j1 hj => ?_⟩
    · show s_bd (s_trd x.1 (T i) b u) b 2 < m'
      rw [eb]; omega
    · show s_as (s_trd x.1 (T i) b u) (T j) 2 = 0 ∨ x.2.1 - u = 0 ∨ s_bd (s_trd x.1 (T i) b u) b 2 = 0
      rw [eb]
      rcases (show j < i ∨ j = i by omega) with g | g
      · have q := hD j j0 g hj
        have tj := HT.1 j j0 (by omega)
        rcases q with q | q | q
        · left
          by_cases e : T j = T i
          · rw [e] at q; omega
          · have q3 : s_as (s_trd x.1 (T i) b u) (T j) 2 = s_as x.1 (T j) 2 := s_trd_ne (by omega) (by omega) (by omega) (by omega)
            rw [q3]; exact q
        · omega
        · omega
      · subst g
        rw [ea]; omega
theorem s_tbI_e {φ : Int → Int} {b : Int} {x : (Int → Int) × Int × Int} {T : Int → Int} {i : Int} (H : s_tbI φ b x T i) (b0 : 0 ≤ b) (b1 : b < 10) (HT : s_so (fun k => s_as φ k 3) T (φ 3)) (h3 : φ 3 ≤ 10) (hi : i = φ 3) : s_tbX φ b = x := by
  obtain ⟨ok, hR, hS, ⟨m, em, hm⟩, hD⟩ := H
  rw [em]
  refine s_tbL_f (fun q => ?_)
  have e3 : x.1 3 = φ 3 := hS.1 3 (by decide)
  have hn := (s_na_b ok b).resolve_left q.1
  obtain ⟨p, p0, p1, ep⟩ := HT.2.2 (s_na x.1 b) hn.1 (by omega)
  have hs : s_sui φ b (T p) := by rw [ep]; exact (s_sui_sam hS b0 b1 hn.1 (by omega)).mp ⟨hn.2.2.1, hn.2.2.2.1, hn.2.2.2.2.1⟩
  have q2 := hD p p0 (by omega) hs
  have q3 := hn.2.2.2.2.2
  rw [ep] at q2
  omega
theorem s_tbP_cur {φ : Int → Int} {b : Int} {x : (Int → Int) × Int × Int} (h : s_tbX φ b = x) : s_cur φ b x = s_tbP φ b := by
  unfold s_tbP
  rw [h]
  rfl
theorem s_tr1_cur {φ : Int → Int} {b : Int} {x : (Int → Int) × Int × Int} {T : Int → Int} {i k : Int} (H : s_tbI φ b x T i) (ok0 : s_ok φ) (b0 : 0 ≤ b) (b1 : b < 10) (k0 : 0 ≤ k) (k1 : k < 10) : s_tu1 (s_cur φ b x) b k = min (min (s_bd x.1 b 2) (s_as x.1 k 2)) x.2.1 ∧ s_tr1 (s_cur φ b x) b k = s_cur φ b (s_x1 x b k (min (min (s_bd x.1 b 2) (s_as x.1 k 2)) x.2.1)) := by
  obtain ⟨ok, hR, hS, hM, hD⟩ := H
  have hri := s_ri_b ok0 b0 b1
  have hb := s_bd_b ok b0 b1
  have hsam : s_sam x.1 (s_cur φ b x) := s_sam_ri hri.1 hri.2
  have e1 : s_ri (s_cur φ b x) b = s_ri φ b := s_ri_sam (s_sam_t hS hsam) b0 b1
  have e2 : s_cur φ b x (s_ri φ b) = 999 - x.2.1 := s_set_eq
  have e3 : s_bd (s_cur φ b x) b 2 = s_bd x.1 b 2 := s_set_ne (by omega)
  have e4 : s_as (s_cur φ b x) k 2 = s_as x.1 k 2 := s_set_ne (by omega)
  have e5 : s_tu1 (s_cur φ b x) b k = min (min (s_bd x.1 b 2) (s_as x.1 k 2)) x.2.1 := by
    unfold s_tu1
    rw [e1, e2, e3, e4]
    omega
  refine ⟨e5, ?_⟩
  unfold s_tr1
  rw [e1, e2, e5]
  have f0 : s_bd (s_cur φ b x) b 0 = s_bd x.1 b 0 := hsam.2.2 b 0 b0 b1 (by decide) (by decide) (by decide)
  have f4 : s_bd (s_cur φ b x) b 4 = s_bd x.1 b 4 := hsam.2.2 b 4 b0 b1 (by decide) (by decide) (by decide)
  have f3 : s_as (s_cur φ b x) k 3 = s_as x.1 k 3 := hsam.2.1 k 3 k0 k1 (by decide) (by decide) (by decide)
  unfold s_trd
  rw [f0, f4, f3]
  generalize min (min (s_bd x.1 b 2) (s_as x.1 k 2)) x.2.1 = u
  unfold s_cur s_x1 s_trd
  rw [s_aw_cm (i := s_ri φ b) (j := 399 + 4 * k + 2) (by omega), s_aw_cm (i := s_ri φ b) (j := 439 + 5 * b + 2) (by omega), s_aw_cm (i := s_ri φ b) (j := 15 + 4 * s_bd x.1 b 4 + 3) (by omega), s_aw_cm (i := s_ri φ b) (j := 15 + 4 * s_bd x.1 b 0 + 3) (by omega), s_set_set]
  show s_set _ _ _ = s_set _ _ (999 - (x.2.1 - u))
  rw [show 999 - (x.2.1 - u) = 999 - x.2.1 + u by omega]
theorem s_cur_ok {φ : Int → Int} {b : Int} {x : (Int → Int) × Int × Int} {T : Int → Int} {i : Int} (H : s_tbI φ b x T i) (ok0 : s_ok φ) (b0 : 0 ≤ b) (b1 : b < 10) : s_ok (s_cur φ b x) ∧ s_sam φ (s_cur φ b x) := by
  obtain ⟨ok, hR, hS, hM, hD⟩ := H
  have hri := s_ri_b ok0 b0 b1
  have hb := s_bd_b ok0 b0 b1
  refine ⟨?_, s_sam_t hS (s_sam_ri hri.1 hri.2)⟩
  unfold s_cur s_ri
  exact s_ok_rt ok (by omega) (by omega) (by omega) (by omega) (by omega) (by omega) (by omega) (by omega)
/-! all bids in their order -/
theorem q_sum_0 {n : Nat} : q_sum (fun _ => 0) n = 0 := by
  induction n with
  | zero => rfl
  | succ n ih => show q_sum (fun _ => 0) n + 0 = 0; omega
theorem q_sum_1 {t : Int} (n : Nat) : q_sum (fun k => q_B (k = t)) n = if 0 ≤ t ∧ t < n then 1 else 0 := by
  induction n with
  | zero => rw [if_neg (by omega)]; rfl
  | succ n ih =>
    show q_sum (fun k => q_B (k = t)) n + q_B ((n : Int) = t) = _
    rw [ih]
    by_cases e : (n : Int) = t
    · rw [q_B_t e, if_neg (by omega), if_pos (by omega)]; rfl
    · rw [q_B_f e]
      by_cases g : 0 ≤ t ∧ t < n
      · rw [if_pos g, if_pos (by omega)]; rfl
      · rw [if_neg g, if_neg (by omega)]; rfl
theorem s_so_cnt {V T : Int → Int} {n : Int} (H : s_so V T n) (i : Nat) (hi : i ≤ n) : q_sum (fun k => q_B (∃ j : Int, 0 ≤ j ∧ j < i ∧ T j = k)) n.toNat = i := by
  induction i with
  | zero =>
    rw [q_sum_c (g := fun _ => 0) (fun k _ _ => q_B_f (fun ⟨j, a, b, _⟩ => by omega)), q_sum_0]; rfl
  | succ i ih =>
    have ih := ih (by omega)
    have ti := H.1 i (by omega) (by omega)
    rw [q_sum_c (g := fun k => q_B (∃ j : Int, 0 ≤ j ∧ j < i ∧ T j = k) + q_B (k = T i)) (fun k k0 k1 => ?_), q_sum_add, ih, q_sum_1, if_pos ⟨ti.1, by omega⟩]
    · rfl
    · by_cases e : k = T i
      · have nj : ¬ ∃ j : Int, 0 ≤ j ∧ j < i ∧ T j = k := by
          rintro ⟨j, a, b, c⟩
          have q := H.2.1 j i a b (by omega)
          rw [c, e] at q
          omega
        rw [q_B_t e, q_B_f nj, q_B_t ⟨i, by omega, by omega, e.symm⟩]; rfl
      · rw [q_B_f e]
        by_cases g : ∃ j : Int, 0 ≤ j ∧ j < i ∧ T j = k
        · obtain ⟨j, a, b, c⟩ := g
          rw [q_B_t (P := ∃ j : Int, 0 ≤ j ∧ j < ((i + 1 : Nat) : Int) ∧ T j = k) ⟨j, a, by omega, c⟩, q_B_t (P := ∃ j : Int, 0 ≤ j ∧ j < i ∧ T j = k) ⟨j, a, b, c⟩]; rfl
        · rw [q_B_f g, q_B_f (fun ⟨j, a, b, c⟩ => g ⟨j, a, by
            rcases (show j < i ∨ j = i by omega) with f | f
            · exact f
            · subst f; exact absurd c.symm e, c⟩)]; rfl
theorem s_so_rank {V T : Int → Int} {n i : Int} (H : s_so V T n) (i0 : 0 ≤ i) (i1 : i < n) : q_sum (fun k => q_B (V k < V (T i) ∨ (V k = V (T i) ∧ k < T i))) n.toNat = i := by
  have h := s_so_cnt H i.toNat (by omega)
  rw [show ((i.toNat : Nat) : Int) = i by omega] at h
  rw [← q_sum_c (f := fun k => q_B (∃ j : Int, 0 ≤ j ∧ j < i ∧ T j = k)) (fun k k0 k1 => ?_)]
  · exact h
  · refine q_B_congr ⟨fun ⟨j, a, b, c⟩ => ?_, fun q => ?_⟩
    · have q := H.2.1 j i a b i1
      rw [c] at q
      exact q
    · obtain ⟨j, a, b, c⟩ := H.2.2 k k0 (by omega)
      refine ⟨j, a, ?_, c⟩
      rcases (show j < i ∨ j = i ∨ i < j by omega) with f | f | f
      · exact f
      · subst f; rw [c] at q; omega
      · have g := H.2.1 i j i0 f b
        rw [c] at g
        omega
theorem s_pob_so {φ : Int → Int} {T : Int → Int} (H : s_so (fun k => -s_bd φ k 3) T (φ 4)) {i k : Int} (i0 : 0 ≤ i) (i1 : i < φ 4) (k0 : 0 ≤ k) (k1 : k < φ 4) : s_pob φ k = i ↔ k = T i := by
  have key : ∀ j, 0 ≤ j → j < φ 4 → s_pob φ (T j) = j := fun j j0 j1 => by
    have q := s_so_rank H j0 j1
    unfold s_pob
    rw [← q]
    refine q_sum_c (fun m m0 m1 => q_B_congr ?_)
    show _ ↔ -s_bd φ m 3 < -s_bd φ (T j) 3 ∨ (-s_bd φ m 3 = -s_bd φ (T j) 3 ∧ m < T j)
    rw [q]
    omega
  constructor
  · intro e
    obtain ⟨j, j0, j1, c⟩ := H.2.2 k k0 k1
    have q := key j j0 j1
    rw [c, e] at q
    rw [← c, q]
  · intro e
    rw [e]
    exact key i i0 i1
theorem s_pob_sam {φ ψ : Int → Int} (ok : s_ok φ) (h : s_sam φ ψ) {k : Int} (k0 : 0 ≤ k) (k1 : k < 10) : s_pob ψ k = s_pob φ k := by
  have h4 := ok.2.2.2.1
  unfold s_pob
  rw [h.1 4 (by decide)]
  refine q_sum_c (fun m m0 m1 => q_B_congr ?_)
  rw [h.2.2 m 3 m0 (by omega) (by decide) (by decide) (by decide), h.2.2 k 3 k0 k1 (by decide) (by decide) (by decide)]
theorem s_tbL_sam {b : Int} (b0 : 0 ≤ b) (b1 : b < 10) (n : Nat) : ∀ x : (Int → Int) × Int × Int, s_ok x.1 → 0 ≤ x.2.1 → x.2.1 ≤ 999 → s_sam x.1 (s_tbL b n x).1 := by
  induction n with
  | zero => exact fun x _ _ _ => s_sam_r
  | succ n ih =>
    intro x ok h0 h1
    by_cases h : s_na x.1 b ≠ -6 ∧ 0 < x.2.1 ∧ 0 < s_bd x.1 b 2
    · have hn : 0 ≤ s_na x.1 b ∧ s_na x.1 b < x.1 3 ∧ s_suit x.1 b (s_na x.1 b) := (s_na_b ok b).resolve_left h.1
      have h3 := ok.2.2.1
      have ha := s_as_b ok hn.1 (by omega)
      have hb := s_bd_b ok b0 b1
      have hu : 0 ≤ s_tu x b ∧ s_tu x b ≤ s_as x.1 (s_na x.1 b) 2 ∧ s_tu x b ≤ s_bd x.1 b 2 ∧ s_tu x b ≤ x.2.1 := by unfold s_tu; omega
      rw [s_tbL_t h]
      exact s_sam_t (s_sam_trd ok b0 b1 hn.1 (by omega)) (ih (s_trd x.1 (s_na x.1 b) b (s_tu x b), x.2.1 - s_tu x b, x.2.2 + s_tu x b) (s_ok_trd ok hn.1 (by omega) b0 b1 hu.1 hu.2.1 hu.2.2.1) (by show 0 ≤ x.2.1 - s_tu x b; omega) (by show x.2.1 - s_tu x b ≤ 999; omega))
    · rw [s_tbL_f h]
      exact s_sam_r
theorem s_tbP_sam {φ : Int → Int} (ok : s_ok φ) {b : Int} (b0 : 0 ≤ b) (b1 : b < 10) : s_sam φ (s_tbP φ b) := by
  have hr := s_ri_v ok b0 b1
  have hi := s_ri_b ok b0 b1
  have h := s_tbL_sam b0 b1 201 (s_x0 φ b) ok (by show 0 ≤ 999 - φ (s_ri φ b); omega) (by show 999 - φ (s_ri φ b) ≤ 999; omega)
  exact s_sam_t h (s_sam_ri hi.1 hi.2)
/-- one place of the bids: only the bid that stands in it is served -/
theorem s_mtI_1 {φ : Int → Int} (ok0 : s_ok φ) {x : (Int → Int) × Int} {T : Int → Int} {i : Int} (ok : s_ok x.1) (hS : s_sam φ x.1) (H : s_so (fun k => -s_bd φ k 3) T (φ 4)) (i0 : 0 ≤ i) (i1 : i < φ 4) (n : Nat) (hn : n ≤ φ 4) : s_mtI i x n = if T i < n then (s_tbP x.1 (T i), x.2 + s_tbV x.1 (T i)) else x := by
  have h4 := ok0.2.2.2.1
  have t := H.1 i i0 i1
  induction n with
  | zero => rw [if_neg (by omega)]; rfl
  | succ n ih =>
    have ih := ih (by omega)
    have hs : s_sam φ (s_mtI i x n).1 := by
      rw [ih]
      split
      · exact s_sam_t hS (s_tbP_sam ok t.1 (by omega))
      · exact hS
    have e : s_pob (s_mtI i x n).1 n = i ↔ (n : Int) = T i := by
      rw [s_pob_sam ok0 hs (by omega) (by omega)]
      exact s_pob_so H i0 i1 (by omega) (by omega)
    by_cases q : (n : Int) = T i
    · rw [show s_mtI i x (n + 1) = (s_tbP (s_mtI i x n).1 n, (s_mtI i x n).2 + s_tbV (s_mtI i x n).1 n) from if_pos (e.mpr q), ih, if_neg (by omega), if_pos (by omega), q]
    · rw [show s_mtI i x (n + 1) = s_mtI i x n from if_neg (fun g => q (e.mp g)), ih]
      by_cases g : T i < n
      · rw [if_pos g, if_pos (by omega)]
      · rw [if_neg g, if_neg (by omega)]
theorem s_mtP_1 {φ : Int → Int} (ok0 : s_ok φ) {T : Int → Int} {i : Int} {ψ : Int → Int} {u : Int} (h : s_mtP (φ, 0) i.toNat = (ψ, u)) (ok : s_ok ψ) (hS : s_sam φ ψ) (H : s_so (fun k => -s_bd φ k 3) T (φ 4)) (i0 : 0 ≤ i) (i1 : i < φ 4) : s_mtP (φ, 0) (i + 1).toNat = (s_tbP ψ (T i), u + s_tbV ψ (T i)) := by
  rw [s_mtP_s i0, h]
  have q := s_mtI_1 ok0 (x := (ψ, u)) ok hS H i0 i1 (φ 4).toNat (by omega)
  have t := H.1 i i0 i1
  rw [if_pos (by omega)] at q
  exact q
theorem s_so_V {V W T : Int → Int} {n : Int} (H : s_so V T n) (h : ∀ k, 0 ≤ k → k < n → W k = V k) : s_so W T n :=
  ⟨H.1, fun i j i0 ij jn => by
    have a := H.1 i i0 (by omega)
    have b := H.1 j (by omega) jn
    rw [h _ a.1 a.2, h _ b.1 b.2]
    exact H.2.1 i j i0 ij jn, H.2.2⟩
theorem s_so_sam {φ ψ : Int → Int} {T : Int → Int} (hS : s_sam φ ψ) (h3 : φ 3 ≤ 10) (H : s_so (fun k => s_as φ k 3) T (φ 3)) : s_so (fun k => s_as ψ k 3) T (ψ 3) := by
  rw [hS.1 3 (by decide)]
  exact s_so_V H (fun k k0 k1 => hS.2.1 k 3 k0 (by omega) (by decide) (by decide) (by decide))
def s_offT (S S2 : q_S) : Prop := s_offF S S2 ∧ S2 10 = S 10 ∧ S2 13 = S 13
theorem s_offT_r {S : q_S} : s_offT S S := ⟨s_offF_r, rfl, rfl⟩
theorem s_offT_u {S S2 : q_S} {c : Nat} {z v : Int} (h : s_offT S S2) (h0 : 0 < c) (h1 : c ≤ 13) (h2 : 10 ≠ c) (h3 : 13 ≠ c) : s_offT S (q_up S2 c z v) := ⟨s_offF_u h.1 h0 h1, (q_up_ne h2).trans h.2.1, (q_up_ne h3).trans h.2.2⟩
theorem s_offT_t {S S2 S3 : q_S} (h : s_offT S S2) (g : s_offT S2 S3) : s_offT S S3 := ⟨s_offF_t h.1 g.1, g.2.1.trans h.2.1, g.2.2.trans h.2.2⟩
theorem s_F_7 {S : q_S} {φ : Int → Int} (F : s_F S 1 φ) {j : Int} (h0 : 39 ≤ j) (h1 : j < 399) : S 7 (j - 39) = φ j := by
  have q := s_F_j F (j := j - 39) (by omega) (by omega)
  rw [q, show 39 + (j - 39) = j by omega]
theorem s_F_rj {S : q_S} {φ : Int → Int} {j u : Int} (F : s_F S 1 φ) (r0 : 39 ≤ j) (r1 : j < 399) (a3 : φ 3 ≤ 10) (a4 : φ 4 ≤ 10) : s_F (q_up S 7 (j - 39) u) 1 (s_set φ j u) := by
  have q := s_F_ri (r := j - 39) (u := u) F (by omega) (by omega) a3 a4
  rw [show 39 + (j - 39) = j by omega] at q
  exact q
theorem s_F_mB {S2 : q_S} {φ ψ : Int → Int} {u : Int} (F : s_F S2 1 ψ) (ok0 : s_ok φ) (ok : s_ok ψ) (hS : s_sam φ ψ) (h : s_mtP (φ, 0) (φ 4).toNat = (ψ, u)) : s_F (s_reN 11 (S2 11 0).toNat S2) 1 (s_matB φ) ∧ s_ok (s_matB φ) := by
  have h4 := ok.2.2.2.1
  have h3 := ok.2.2.1
  have e4 : ψ 4 = φ 4 := hS.1 4 (by decide)
  have e : s_matB φ = s_rmB (φ 4).toNat ψ := by unfold s_matB; rw [h]
  rw [e, s_F_bn F, e4]
  exact ⟨s_F_re11 _ _ _ F (by omega) (by omega) (by omega), s_ok_rmB _ _ ok (by omega)⟩
theorem s_F_mA {S3 : q_S} {φ : Int → Int} (F : s_F S3 1 (s_matB φ)) (ok : s_ok (s_matB φ)) : s_F (s_reN 8 (S3 8 0).toNat S3) 1 (s_matA φ) ∧ s_ok (s_matA φ) := by
  have h3 := ok.2.2.1
  have h4 := ok.2.2.2.1
  unfold s_matA
  rw [s_F_an F]
  exact ⟨s_F_re8 _ _ _ F (by omega) (by omega) (by omega), s_ok_rmA _ _ ok (by omega)⟩
