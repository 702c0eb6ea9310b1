/-! the search: all hours, the best set -/
theorem c_X7_layRows {Γ : q_G} {φ : Int → Int} {h : Int} (ok : s_ok φ) (h0 : 0 ≤ h) (h1 : h < 10) (n : Nat) : s_LR Γ φ h n := by
  induction n using Nat.strongRecOn with
  | ind n ih => exact fun S p x sum H hn => c_X7_layRows_s ok h0 h1 ih H hn
def s_vd (φ : Int → Int) (i : Int) : Prop := ∀ r, 0 ≤ r → r < φ 0 → s_dg (φ 0) i r ≤ s_tp φ r
noncomputable def s_gt (φ : Int → Int) (i : Int) (n : Nat) : Int := q_sum (s_gh φ (s_dg (φ 0) i)) n
theorem s_dg_0 {R r : Int} : s_dg R 0 r = 0 := by unfold s_dg; rw [Int.zero_ediv]; rfl
theorem s_g2_b {φ : Int → Int} (ok : s_ok φ) {tl : Int → Int} (htl : ∀ r, 0 ≤ tl r ∧ tl r < 5) {r h : Int} (hb0 : 0 ≤ r) (hb : r < 6) (h0 : 0 ≤ h) (h1 : h < 10) : 0 ≤ s_g2 φ tl h r ∧ s_g2 φ tl h r ≤ 400 := by
  have hr := s_rows_b ok
  have h2 := s_mx_b ok htl hb0 hb h0 h1 (φ 0).toNat (by omega)
  have h3 := (s_pt_b ok hb0 hb).2.1
  have h4 := htl r
  have h5 := s_ti_b (φ := φ) (r := r) (h := h) h4.1
  have h6 := q_mulb h3.1 h3.2 h5.1 (show s_ti φ r (tl r) h ≤ 4 by omega)
  have h7 := s_sun_b h0 h1
  exact q_mulb (A := 80) (B := 5) (by omega) (by omega) (by omega) (by omega)
theorem s_gh_b {φ : Int → Int} (ok : s_ok φ) {tl : Int → Int} (htl : ∀ r, 0 ≤ tl r ∧ tl r < 5) {h : Int} (h0 : 0 ≤ h) (h1 : h < 10) : 0 ≤ s_gh φ tl h ∧ s_gh φ tl h ≤ 2400 := by
  have hr := s_rows_b ok
  have b := q_sum_b (f := s_g2 φ tl h) (A := 400) (n := (φ 0).toNat) (fun k k0 k1 => s_g2_b ok htl k0 (by omega) h0 h1)
  unfold s_gh
  omega
theorem s_gt_b {φ : Int → Int} (ok : s_ok φ) (i : Int) (n : Nat) (hn : n ≤ 10) : 0 ≤ s_gt φ i n ∧ s_gt φ i n ≤ 24000 := by
  have b := q_sum_b (f := s_gh φ (s_dg (φ 0) i)) (A := 2400) (n := n) (fun k k0 k1 => s_gh_b ok (fun r => s_dg_b) k0 (by omega))
  unfold s_gt
  omega
theorem s_gh_flat {φ : Int → Int} (ok : s_ok φ) {tl : Int → Int} (htl : ∀ r, 0 ≤ tl r ∧ tl r < 5) {h : Int} (h0 : 0 ≤ h) (h1 : h < 10) (f : s_flat φ h) : s_gh φ tl h = 0 := by
  have hr := s_rows_b ok
  unfold s_gh
  rw [q_sum_c (g := fun _ => 0) (fun r r0 r1 => ?_), q_sum_0]
  have m := s_mx_b ok htl r0 (show r < 6 by omega) h0 h1 (φ 0).toNat (by omega)
  unfold s_g2
  rw [show s_ti φ r (tl r) h = 0 from q_if_t f, Int.mul_zero, show max 0 (0 - s_mx φ tl r h (φ 0).toNat) = 0 by omega, Int.zero_mul]
theorem s_gt_s {φ : Int → Int} {i k : Int} (h : 0 ≤ k) : s_gt φ i (k + 1).toNat = s_gt φ i k.toNat + s_gh φ (s_dg (φ 0) i) k := q_sum_s h
noncomputable def s_len (φ : Int → Int) : Int := q_sum (fun r => s_pt φ r 1) (φ 0).toNat
theorem s_len_b {φ : Int → Int} (ok : s_ok φ) : 0 ≤ s_len φ ∧ s_len φ ≤ 120 := by
  have hr := s_rows_b ok
  have b := q_sum_b (f := fun r => s_pt φ r 1) (A := 20) (n := (φ 0).toNat) (fun k k0 k1 => (s_pt_b ok k0 (show k < 6 by omega)).2.1)
  unfold s_len
  omega
theorem s_tot_e {φ : Int → Int} (i : Int) : s_tot φ (s_dg (φ 0) i) = s_gt φ i 10 + 10 * s_len φ := by
  have e : s_tot φ (s_dg (φ 0) i) = q_sum (fun h => s_len φ + s_gh φ (s_dg (φ 0) i) h) 10 := by
    refine q_sum_c (fun h h0 h1 => ?_)
    show q_sum (s_g1 φ (s_dg (φ 0) i) h) (φ 0).toNat = s_len φ + s_gh φ (s_dg (φ 0) i) h
    rw [show q_sum (s_g1 φ (s_dg (φ 0) i) h) (φ 0).toNat = q_sum (fun r => s_pt φ r 1 + s_g2 φ (s_dg (φ 0) i) h r) (φ 0).toNat from q_sum_c (fun r r0 r1 => rfl), q_sum_add]
    rfl
  rw [e, q_sum_add]
  have c : q_sum (fun _ => s_len φ) 10 = 10 * s_len φ := by
    show 0 + s_len φ + s_len φ + s_len φ + s_len φ + s_len φ + s_len φ + s_len φ + s_len φ + s_len φ + s_len φ = _
    omega
  rw [c]
  show 10 * s_len φ + s_gt φ i 10 = _
  omega
theorem s_bwN_ge {φ : Int → Int} (n : Nat) : ∀ j : Int, 0 ≤ j → j < n → s_tot φ (s_dg (φ 0) j) ≤ (s_bwN φ n).2 := by
  induction n with
  | zero => intro j j0 j1; omega
  | succ n ih =>
    intro j j0 j1
    have e : s_bwN φ (n + 1) = (q_if ((s_bwN φ n).2 < s_tot φ (s_dg (φ 0) n)) n (s_bwN φ n).1, q_if ((s_bwN φ n).2 < s_tot φ (s_dg (φ 0) n)) (s_tot φ (s_dg (φ 0) n)) (s_bwN φ n).2) := rfl
    rw [e]
    show s_tot φ (s_dg (φ 0) j) ≤ q_if ((s_bwN φ n).2 < s_tot φ (s_dg (φ 0) n)) (s_tot φ (s_dg (φ 0) n)) (s_bwN φ n).2
    by_cases g : (s_bwN φ n).2 < s_tot φ (s_dg (φ 0) n)
    · rw [q_if_t g]
      rcases (show j < n ∨ j = n by omega) with f | f
      · have := ih j j0 f; omega
      · rw [f]; exact Int.le_refl _
    · rw [q_if_f g]
      rcases (show j < n ∨ j = n by omega) with f | f
      · exact ih j j0 f
      · rw [f]; omega
theorem s_mx_cg {φ : Int → Int} {tl tl2 : Int → Int} {r h : Int} (n : Nat) (e : ∀ k : Int, 0 ≤ k → k < n → s_ti φ k (tl2 k) h = s_ti φ k (tl k) h) : s_mx φ tl2 r h n = s_mx φ tl r h n := by
  induction n with
  | zero => rfl
  | succ n ih =>
    show max _ _ = max _ _
    rw [ih (fun k k0 k1 => e k k0 (by omega)), e n (by omega) (by omega)]
theorem s_tot_cg {φ : Int → Int} {tl tl2 : Int → Int} (e : ∀ h r : Int, 0 ≤ h → h < 10 → 0 ≤ r → r < φ 0 → s_ti φ r (tl2 r) h = s_ti φ r (tl r) h) : s_tot φ tl2 = s_tot φ tl := by
  refine q_sum_c (fun h h0 h1 => ?_)
  show q_sum (s_g1 φ tl2 h) (φ 0).toNat = q_sum (s_g1 φ tl h) (φ 0).toNat
  refine q_sum_c (fun r r0 r1 => ?_)
  unfold s_g1
  rw [e h r h0 (by omega) r0 (by omega), s_mx_cg (φ 0).toNat (fun k k0 k1 => e h k h0 (by omega) k0 (by omega))]
/-- a set with a tilt that no hour has yields what a set before it yields -/
theorem s_lower {φ : Int → Int} (ok : s_ok φ) {i : Int} (i0 : 0 ≤ i) (i1 : i < s_p5 (φ 0).toNat) (nv : ¬ s_vd φ i) : ∃ y, 0 ≤ y ∧ y < i ∧ s_tot φ (s_dg (φ 0) y) = s_tot φ (s_dg (φ 0) i) := by
  have c0 := ok.1
  have ex : ∃ r, 0 ≤ r ∧ r < φ 0 ∧ s_tp φ r < s_dg (φ 0) i r := by
    refine Classical.byContradiction (fun q => nv (fun r r0 r1 => ?_))
    refine Classical.byContradiction (fun g => q ⟨r, r0, r1, by omega⟩)
  obtain ⟨r, r0, r1, hr⟩ := ex
  have tb := s_tp_b (φ := φ) (r := r)
  have db := s_dg_b (R := φ 0) (way := i) (r := r)
  have a := s_set_d (x := i) (c := s_tp φ r) (K := (φ 0 - 1 - r).toNat) tb.1.1 (by omega)
  have b := s_set_r (x := i) (c := s_tp φ r) (K := (φ 0 - 1 - r).toNat) (n := (φ 0).toNat) tb.1.1 (by omega) i0 i1 (by omega)
  have pp := s_p5_pos (φ 0 - 1 - r).toNat
  have hd : s_tp φ r - s_d5 i (φ 0 - 1 - r).toNat < 0 := by
    have : s_tp φ r < s_d5 i (φ 0 - 1 - r).toNat := hr
    omega
  have neg : (s_tp φ r - s_d5 i (φ 0 - 1 - r).toNat) * s_p5 (φ 0 - 1 - r).toNat < 0 := Int.mul_neg_of_neg_of_pos hd (by omega)
  refine ⟨_, b.1, by omega, s_tot_cg (fun h r' h0 h1 r'0 r'1 => ?_)⟩
  by_cases e : r' = r
  · subst e
    have e1 : s_dg (φ 0) (i + (s_tp φ r' - s_d5 i (φ 0 - 1 - r').toNat) * s_p5 (φ 0 - 1 - r').toNat) r' = s_tp φ r' := a.1
    rw [e1, s_ti_lim ok r0 (by omega) tb.1.1 tb.1.2 h0 h1, s_ti_lim ok r0 (by omega) db.1 (by omega) h0 h1]
    have := tb.2 h h0 h1
    omega
  · exact congrArg (fun t => s_ti φ r' t h) (a.2 _ (by omega))
theorem s_rch_0 {φ V T : Int → Int} (H : s_so V T (φ 0)) {i : Int} : s_rch (φ 0) T (s_tp φ) 0 0 i ↔ s_vd φ i := by
  constructor
  · intro h r r0 r1
    obtain ⟨q, q0, q1, e⟩ := H.2.2 r r0 r1
    have := h.2 q q0 q1
    rw [e] at this; exact this
  · intro h
    exact ⟨fun q q0 q1 => by omega, fun q q0 q1 => by have b := H.1 q q0 q1; exact h _ b.1 b.2⟩
/-- the sums after the hours before k -/
def s_smk (φ : Int → Int) (S : q_S) (k : Nat) : Prop := ∀ i, 0 ≤ i → i < s_p5 (φ 0).toNat → S 21 i = q_if (s_vd φ i) (s_gt φ i k) 0
theorem s_smk_b {φ : Int → Int} (ok : s_ok φ) {S : q_S} {k : Nat} (hk : k ≤ 10) (H : s_smk φ S k) {i : Int} (i0 : 0 ≤ i) (i1 : i < s_p5 (φ 0).toNat) : 0 ≤ S 21 i ∧ S 21 i ≤ 24000 := by
  have b := s_gt_b ok i k hk
  rw [H i i0 i1]
  by_cases g : s_vd φ i
  · rw [q_if_t g]; exact b
  · rw [q_if_f g]; decide
theorem s_smk_flat {φ : Int → Int} (ok : s_ok φ) {S S2 : q_S} {k : Int} (k0 : 0 ≤ k) (k1 : k < 10) (H : s_smk φ S k.toNat) (e : S2 21 = S 21) (f : s_flat φ k) : s_smk φ S2 (k + 1).toNat := fun i i0 i1 => by
  rw [e, H i i0 i1, s_gt_s k0, s_gh_flat ok (fun r => s_dg_b) k0 k1 f, Int.add_zero]
theorem s_smk_lay {φ V : Int → Int} {S S0 S2 : q_S} {k : Int} (k0 : 0 ≤ k) (H : s_smk φ S k.toNat) (e : S0 21 = S 21) (HT : s_so V (S0 23) (φ 0)) (Q : s_layQ φ k S0 S2 0 (fun i => s_rch (φ 0) (S0 23) (s_tp φ) 0 0 i)) : s_smk φ S2 (k + 1).toNat := fun i i0 i1 => by
  rw [Q.2.2 i i0 i1, e, H i i0 i1, s_gt_s k0]
  by_cases g : s_vd φ i
  · rw [q_if_t g, q_if_t ((s_rch_0 HT).mpr g), q_if_t g]
  · rw [q_if_f g, q_if_f (fun q => g ((s_rch_0 HT).mp q)), q_if_f g]; rfl
theorem s_layH_0 {φ : Int → Int} (ok : s_ok φ) {h : Int} {S S0 : q_S} {k : Nat} (hk : k ≤ 10) (F : s_F S0 1 φ) (lk : s_lk S0 φ h) (HT : s_so (s_Vd φ h) (S0 23) (φ 0)) (Htp : ∀ r, 0 ≤ r → r < φ 0 → S0 22 r = s_tp φ r) (H : s_smk φ S k) (e : S0 21 = S 21) : s_layH φ h S0 0 0 0 := by
  have c0 := ok.1
  have pp := s_p5_pos (φ 0).toNat
  exact ⟨F, lk, HT, Htp, ⟨by omega, by omega⟩, ⟨by omega, by omega⟩, fun q _ _ => s_dg_0, fun q q0 q1 => by omega, rfl, fun i i0 i1 _ => by rw [e]; have := s_smk_b ok hk H i0 i1; omega⟩
/-- the best set before i, as it is looked for in the sums -/
def s_bst (φ : Int → Int) (i b : Int) : Prop := 0 ≤ b ∧ b < i ∧ s_vd φ b ∧ b = (s_bwN φ i.toNat).1 ∧ (s_bwN φ i.toNat).2 = s_gt φ b 10 + 10 * s_len φ
theorem s_vd_0 {φ : Int → Int} : s_vd φ 0 := fun r _ _ => by rw [s_dg_0]; exact (s_tp_b (φ := φ) (r := r)).1.1
theorem s_bst_1 {φ : Int → Int} (ok : s_ok φ) : s_bst φ 1 0 := by
  have t := s_tot_b ok (tl := s_dg (φ 0) 0) (fun r => s_dg_b)
  have e : s_bwN φ (1 : Int).toNat = (q_if (-1 < s_tot φ (s_dg (φ 0) 0)) 0 0, q_if (-1 < s_tot φ (s_dg (φ 0) 0)) (s_tot φ (s_dg (φ 0) 0)) (-1)) := rfl
  rw [q_if_t (by omega), q_if_t (by omega)] at e
  exact ⟨by decide, by decide, s_vd_0, by rw [e], by rw [e]; exact s_tot_e 0⟩
theorem s_bst_n {φ : Int → Int} (ok : s_ok φ) {S : q_S} {i b : Int} (H : s_bst φ i b) (HS : s_smk φ S 10) (i0 : 1 ≤ i) (i1 : i < s_p5 (φ 0).toNat) : (S 21 b < S 21 i → s_bst φ (i + 1) i) ∧ (¬ S 21 b < S 21 i → s_bst φ (i + 1) b) := by
  obtain ⟨b0, b1, vb, e1, e2⟩ := H
  have eb : S 21 b = s_gt φ b 10 := by rw [HS b b0 (by omega), q_if_t vb]
  have gb := s_gt_b ok b 10 (Nat.le_refl _)
  have es := s_bwN_s (φ := φ) (k := i) (by omega)
  have et := s_tot_e (φ := φ) i
  by_cases v : s_vd φ i
  · have ei : S 21 i = s_gt φ i 10 := by rw [HS i (by omega) i1, q_if_t v]
    refine ⟨fun g => ?_, fun g => ?_⟩
    · rw [q_if_t (by omega), q_if_t (by omega)] at es
      exact ⟨by omega, by omega, v, by rw [es], by rw [es]; exact et⟩
    · rw [q_if_f (by omega), q_if_f (by omega)] at es
      exact ⟨b0, by omega, vb, by rw [es]; exact e1, by rw [es]; exact e2⟩
  · have ei : S 21 i = 0 := by rw [HS i (by omega) i1, q_if_f v]
    refine ⟨fun g => by omega, fun g => ?_⟩
    obtain ⟨y, y0, y1, ey⟩ := s_lower ok (by omega) i1 v
    have ge := s_bwN_ge (φ := φ) i.toNat y y0 (by omega)
    rw [q_if_f (by omega), q_if_f (by omega)] at es
    exact ⟨b0, by omega, vb, by rw [es]; exact e1, by rw [es]; exact e2⟩
