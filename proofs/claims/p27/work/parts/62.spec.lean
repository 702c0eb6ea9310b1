/-! the search: what is laid, what is left -/
theorem s_tab2 {Γ : q_G} {k : Int} (h0 : 0 ≤ k) (h1 : k < 7) : (q_tab Γ 2).2 k.toNat = s_p5 k.toNat := by
  rcases (show k = 0 ∨ k = 1 ∨ k = 2 ∨ k = 3 ∨ k = 4 ∨ k = 5 ∨ k = 6 by omega) with rfl | rfl | rfl | rfl | rfl | rfl | rfl <;> rfl
def s_offS (S S2 : q_S) : Prop := ∀ a, (a < 14 ∨ 24 < a) → S2 a = S a
theorem s_offS_r {S : q_S} : s_offS S S := fun _ _ => rfl
theorem s_offS_t {S S2 S3 : q_S} (h : s_offS S S2) (g : s_offS S2 S3) : s_offS S S3 := fun a ha => (g a ha).trans (h a ha)
theorem s_offS_u {S S2 : q_S} {c : Nat} {z v : Int} (h : s_offS S S2) (h0 : 14 ≤ c) (h1 : c ≤ 24) : s_offS S (q_up S2 c z v) := fun a ha => (q_up_ne (by omega)).trans (h a ha)
theorem s_offS_K {S S2 : q_S} (h : s_offK S S2) : s_offS S S2 := fun a ha => h a (by omega)
theorem s_F_S {S S2 : q_S} {φ : Int → Int} (F : s_F S 1 φ) (h : s_offS S S2) : s_F S2 1 φ := s_F_o F (fun a h1 h2 _ => h a (by omega))
theorem s_offX_S {S S2 : q_S} (h : s_offS S S2) : s_offX S S2 := fun a ha => h a (by omega)
noncomputable def s_tpN (φ : Int → Int) (r : Int) : Nat → Int
  | 0 => 0
  | n + 1 => max (s_tpN φ r n) (s_lim φ r n)
theorem s_tpN_s {φ : Int → Int} {r k : Int} (h0 : 0 ≤ k) : s_tpN φ r (k + 1).toNat = max (s_tpN φ r k.toNat) (s_lim φ r k) := by
  obtain ⟨n, rfl⟩ : ∃ n : Nat, k = n := ⟨k.toNat, by omega⟩
  rw [show ((n : Int) + 1).toNat = n + 1 by omega, Int.toNat_natCast]
  rfl
theorem s_tpN_b {φ : Int → Int} {r : Int} (n : Nat) : (0 ≤ s_tpN φ r n ∧ s_tpN φ r n ≤ 4) ∧ ∀ h : Int, 0 ≤ h → h < n → s_lim φ r h ≤ s_tpN φ r n := by
  induction n with
  | zero => exact ⟨by show (0 : Int) ≤ 0 ∧ (0 : Int) ≤ 4; decide, fun h h0 h1 => by omega⟩
  | succ n ih =>
    have b := s_lim_b (φ := φ) (r := r) (h := n)
    refine ⟨by show 0 ≤ max _ _ ∧ max _ _ ≤ 4; omega, fun h h0 h1 => ?_⟩
    show _ ≤ max _ _
    rcases (show h < n ∨ h = n by omega) with g | g
    · have := ih.2 h h0 g; omega
    · subst g; omega
noncomputable def s_tp (φ : Int → Int) (r : Int) : Int := s_tpN φ r 10
theorem s_tp_b {φ : Int → Int} {r : Int} : (0 ≤ s_tp φ r ∧ s_tp φ r ≤ 4) ∧ ∀ h, 0 ≤ h → h < 10 → s_lim φ r h ≤ s_tp φ r := s_tpN_b 10
theorem s_sh_sd {φ : Int → Int} (ok : s_ok φ) {tl T : Int → Int} (htl : ∀ r, 0 ≤ tl r ∧ tl r < 5) {r h : Int} (r0 : 0 ≤ r) (r1 : r < 6) (h0 : 0 ≤ h) (h1 : h < 10) (n : Nat) (HT : ∀ q : Int, 0 ≤ q → q < n → 0 ≤ T q ∧ T q < 6) : 0 ≤ s_sd φ tl T r h n ∧ s_sd φ tl T r h n ≤ 80 := by
  refine ⟨((s_sd_le n).mp (Int.le_refl _)).1, (s_sd_le n).mpr ⟨by decide, fun k k0 k1 => ?_⟩⟩
  have t := HT k k0 k1
  have a := htl (T k)
  have b := s_ti_b (φ := φ) (r := T k) (h := h) a.1
  exact (s_sh_b ok t.1 t.2 b.1 (by omega) r0 r1 h0 h1).2
theorem s_ga_b {φ : Int → Int} (ok : s_ok φ) {tl T : Int → Int} (htl : ∀ r, 0 ≤ tl r ∧ tl r < 5) {h q : Int} (h0 : 0 ≤ h) (h1 : h < 10) (q0 : 0 ≤ q) (HT : ∀ j : Int, 0 ≤ j → j ≤ q → 0 ≤ T j ∧ T j < 6) : 0 ≤ s_ga φ tl T h q ∧ s_ga φ tl T h q ≤ 400 := by
  have t := HT q q0 (Int.le_refl _)
  have b := s_sh_sd ok htl t.1 t.2 h0 h1 q.toNat (fun j j0 j1 => HT j j0 (by omega))
  have a := htl (T q)
  have c := s_ti_b (φ := φ) (r := T q) (h := h) a.1
  have l := (s_pt_b ok t.1 t.2).2.1
  have m := q_mulb l.1 l.2 c.1 (show s_ti φ (T q) (tl (T q)) h ≤ 4 by omega)
  have s := s_sun_b h0 h1
  exact q_mulb (A := 80) (B := 5) (by omega) (by omega) (by omega) (by omega)
def s_rch (R : Int) (T tp : Int → Int) (p x i : Int) : Prop := (∀ q, 0 ≤ q → q < p → s_dg R i (T q) = s_dg R x (T q)) ∧ ∀ q, p ≤ q → q < R → s_dg R i (T q) ≤ tp (T q)
/-- one row laid with the tilt t -/
theorem s_lay {R : Int} (hR : R ≤ 6) {r x t : Int} (r0 : 0 ≤ r) (r1 : r < R) (t0 : 0 ≤ t) (t4 : t ≤ 4) (x0 : 0 ≤ x) (x1 : x < s_p5 R.toNat) (hz : s_dg R x r = 0) : (0 ≤ x + t * s_p5 (R - 1 - r).toNat ∧ x + t * s_p5 (R - 1 - r).toNat < s_p5 R.toNat) ∧ s_dg R (x + t * s_p5 (R - 1 - r).toNat) r = t ∧ ∀ r', 0 ≤ r' → r' < R → r' ≠ r → s_dg R (x + t * s_p5 (R - 1 - r).toNat) r' = s_dg R x r' := by
  have e : x + t * s_p5 (R - 1 - r).toNat = x + (t - s_d5 x (R - 1 - r).toNat) * s_p5 (R - 1 - r).toNat := by
    have h : s_d5 x (R - 1 - r).toNat = 0 := hz
    rw [h, Int.sub_zero]
  rw [e]
  have a := s_set_d (x := x) (c := t) (K := (R - 1 - r).toNat) t0 (by omega)
  refine ⟨s_set_r t0 (by omega) x0 x1 (by omega), a.1, fun r' h0 h1 hn => a.2 _ (by omega)⟩
theorem s_dg_ext {R : Int} {V T : Int → Int} (H : s_so V T R) {x y : Int} (x0 : 0 ≤ x) (x1 : x < s_p5 R.toNat) (y0 : 0 ≤ y) (y1 : y < s_p5 R.toNat) (h : ∀ q, 0 ≤ q → q < R → s_dg R x (T q) = s_dg R y (T q)) : x = y := by
  refine s_d5_ext x0 x1 y0 y1 (fun k hk => ?_)
  obtain ⟨q, q0, q1, e⟩ := H.2.2 (R - 1 - k) (by omega) (by omega)
  have g := h q q0 q1
  rw [e] at g
  unfold s_dg at g
  rw [show (R - 1 - (R - 1 - (k : Int))).toNat = k by omega] at g
  exact g
theorem s_rch_s {R : Int} {V T tp : Int → Int} (H : s_so V T R) (hR : R ≤ 6) {p x t i : Int} (p0 : 0 ≤ p) (p1 : p < R) (t0 : 0 ≤ t) (t4 : t ≤ 4) (tt : t ≤ tp (T p)) (x0 : 0 ≤ x) (x1 : x < s_p5 R.toNat) (hz : s_dg R x (T p) = 0) : s_rch R T tp (p + 1) (x + t * s_p5 (R - 1 - T p).toNat) i ↔ s_rch R T tp p x i ∧ s_dg R i (T p) = t := by
  have b := H.1 p p0 p1
  have l := s_lay hR b.1 b.2 t0 t4 x0 x1 hz
  have ne : ∀ q, 0 ≤ q → q < p → T q ≠ T p := fun q q0 q1 e => by have := H.2.1 q p q0 q1 p1; rw [e] at this; omega
  constructor
  · intro h
    have e : s_dg R i (T p) = t := (h.1 p p0 (by omega)).trans l.2.1
    refine ⟨⟨fun q q0 q1 => ?_, fun q q0 q1 => ?_⟩, e⟩
    · have bq := H.1 q q0 (by omega)
      exact (h.1 q q0 (by omega)).trans (l.2.2 _ bq.1 bq.2 (ne q q0 q1))
    · rcases (show q = p ∨ p + 1 ≤ q by omega) with g | g
      · rw [g, e]; exact tt
      · exact h.2 q g q1
  · intro h
    refine ⟨fun q q0 q1 => ?_, fun q q0 q1 => h.1.2 q (by omega) q1⟩
    rcases (show q < p ∨ q = p by omega) with g | g
    · have bq := H.1 q q0 (by omega)
      rw [l.2.2 _ bq.1 bq.2 (ne q q0 g)]
      exact h.1.1 q q0 g
    · rw [g, h.2, l.2.1]
theorem s_rch_sum {P Q : Prop} {i t a d : Int} (hQ : Q ↔ P ∧ d = t) : q_if (P ∧ d < t) a 0 + q_if Q a 0 = q_if (P ∧ d < t + 1) a 0 := by
  by_cases p : P
  · rcases (show d < t ∨ d = t ∨ t < d by omega) with g | g | g
    · rw [q_if_t ⟨p, g⟩, q_if_f (fun q => by have := (hQ.mp q).2; omega), q_if_t ⟨p, by omega⟩]; omega
    · rw [q_if_f (fun q => by omega), q_if_t (hQ.mpr ⟨p, g⟩), q_if_t ⟨p, by omega⟩]; omega
    · rw [q_if_f (fun q => by omega), q_if_f (fun q => by have := (hQ.mp q).2; omega), q_if_f (fun q => by omega)]; rfl
  · rw [q_if_f (fun q => p q.1), q_if_f (fun q => p (hQ.mp q).1), q_if_f (fun q => p q.1)]; rfl
def s_layQ (φ : Int → Int) (h : Int) (S S2 : q_S) (p : Int) (P : Int → Prop) : Prop := (∀ a, a ≠ 21 → a ≠ 24 → S2 a = S a) ∧ (∀ q, 0 ≤ q → q < p → S2 24 (S 23 q) = S 24 (S 23 q)) ∧ ∀ i, 0 ≤ i → i < s_p5 (φ 0).toNat → S2 21 i = S 21 i + q_if (P i) (s_gh φ (s_dg (φ 0) i) h) 0
def s_layH (φ : Int → Int) (h : Int) (S : q_S) (p x sum : Int) : Prop := s_F S 1 φ ∧ s_lk S φ h ∧ s_so (s_Vd φ h) (S 23) (φ 0) ∧ (∀ r, 0 ≤ r → r < φ 0 → S 22 r = s_tp φ r) ∧ (0 ≤ p ∧ p ≤ φ 0) ∧ (0 ≤ x ∧ x < s_p5 (φ 0).toNat) ∧ (∀ q, p ≤ q → q < φ 0 → s_dg (φ 0) x (S 23 q) = 0) ∧ (∀ q, 0 ≤ q → q < p → S 24 (S 23 q) = s_pt φ (S 23 q) 1 * s_ti φ (S 23 q) (s_dg (φ 0) x (S 23 q)) h) ∧ sum = q_sum (s_ga φ (s_dg (φ 0) x) (S 23) h) p.toNat ∧ ∀ i, 0 ≤ i → i < s_p5 (φ 0).toNat → s_rch (φ 0) (S 23) (s_tp φ) p x i → 0 ≤ S 21 i ∧ S 21 i ≤ 100000
theorem s_lay_sum {φ : Int → Int} (ok : s_ok φ) {h : Int} {S : q_S} {p x sum : Int} (H : s_layH φ h S p x sum) (h0 : 0 ≤ h) (h1 : h < 10) : 0 ≤ sum ∧ sum ≤ 2400 := by
  have c0 := ok.1
  obtain ⟨-, -, HT, -, hp, -, -, -, hs, -⟩ := H
  have b := q_sum_b (f := s_ga φ (s_dg (φ 0) x) (S 23) h) (A := 400) (n := p.toNat) (fun k k0 k1 => s_ga_b ok (fun r => s_dg_b) h0 h1 k0 (fun j j0 j1 => by have := HT.1 j j0 (by omega); omega))
  rw [hs]; omega
/-- all rows laid -/
theorem s_lay_e {φ : Int → Int} (ok : s_ok φ) {h : Int} {S : q_S} {p x sum : Int} (H : s_layH φ h S p x sum) (hp : φ 0 ≤ p) : s_layQ φ h S (q_up S 21 x (S 21 x + sum)) p (fun i => s_rch (φ 0) (S 23) (s_tp φ) p x i) := by
  have c0 := ok.1
  obtain ⟨F, lk, HT, Htp, hpp, hx, hz, HH, hs, hb⟩ := H
  have ep : p = φ 0 := by omega
  refine ⟨fun a h1 h2 => q_up_ne h1, fun q q0 q1 => by rw [q_up_ne (by decide)], fun i i0 i1 => ?_⟩
  by_cases e : i = x
  · subst e
    rw [q_up_eq, q_if_t ⟨fun q _ _ => rfl, fun q q0 q1 => by omega⟩, s_gh_ga HT c0.1, hs, ep]
  · rw [q_up_nz e, q_if_f (fun q => e (s_dg_ext HT i0 i1 hx.1 hx.2 (fun j j0 j1 => q.1 j j0 (by omega)))), Int.add_zero]
/-- a row with its tilt: what holds for the rest -/
theorem s_lay_n {φ : Int → Int} (ok : s_ok φ) {h : Int} {S S3 : q_S} {p x sum t : Int} (H : s_layH φ h S p x sum) (hp : p < φ 0) (t0 : 0 ≤ t) (tt : t ≤ s_tp φ (S 23 p)) (Q : s_layQ φ h S S3 p (fun i => s_rch (φ 0) (S 23) (s_tp φ) p x i ∧ s_dg (φ 0) i (S 23 p) < t)) :
    s_layH φ h (q_up S3 24 (S 23 p) (s_pt φ (S 23 p) 1 * s_ti φ (S 23 p) t h)) (p + 1) (x + t * s_p5 (φ 0 - 1 - S 23 p).toNat) (sum + s_ga φ (s_dg (φ 0) (x + t * s_p5 (φ 0 - 1 - S 23 p).toNat)) (S 23) h p) := by
  have c0 := ok.1
  obtain ⟨F, lk, HT, Htp, hpp, hx, hz, HH, hs, hb⟩ := H
  have b := HT.1 p hpp.1 hp
  have tp := (s_tp_b (φ := φ) (r := S 23 p)).1
  have l := s_lay c0.2 b.1 b.2 t0 (by omega) hx.1 hx.2 (hz p (Int.le_refl _) hp)
  have ne : ∀ q, 0 ≤ q → q < φ 0 → q ≠ p → S 23 q ≠ S 23 p := fun q q0 q1 hn e => by
    rcases (show q < p ∨ p < q by omega) with g | g
    · have := HT.2.1 q p q0 g hp; rw [e] at this; omega
    · have := HT.2.1 p q hpp.1 g q1; rw [e] at this; omega
  have oo : ∀ a : Nat, a ≠ 21 → a ≠ 24 → q_up S3 24 (S 23 p) (s_pt φ (S 23 p) 1 * s_ti φ (S 23 p) t h) a = S a := fun a h1 h2 => (q_up_ne h2).trans (Q.1 a h1 h2)
  have e23 := oo 23 (by decide) (by decide)
  have rs := fun i => s_rch_s (tp := s_tp φ) (i := i) HT c0.2 hpp.1 hp t0 (by omega) tt hx.1 hx.2 (hz p (Int.le_refl _) hp)
  unfold s_layH
  rw [e23]
  refine ⟨s_F_o F (fun a h1 h2 _ => oo a (by omega) (by omega)), ?_, HT, fun r r0 r1 => by rw [oo 22 (by decide) (by decide)]; exact Htp r r0 r1, ⟨by omega, by omega⟩, l.1, fun q q0 q1 => ?_, fun q q0 q1 => ?_, ?_, fun i i0 i1 hr => ?_⟩
  · have k := lk
    unfold s_lk at k ⊢
    rw [oo 14 (by decide) (by decide), oo 15 (by decide) (by decide), oo 16 (by decide) (by decide), oo 17 (by decide) (by decide)]; exact k
  · have bq := HT.1 q (by omega) q1
    rw [l.2.2 _ bq.1 bq.2 (ne q (by omega) q1 (by omega))]
    exact hz q (by omega) q1
  · rcases (show q < p ∨ q = p by omega) with g | g
    · have bq := HT.1 q q0 (by omega)
      rw [q_up_nz (ne q q0 (by omega) (by omega)), Q.2.1 q q0 g, l.2.2 _ bq.1 bq.2 (ne q q0 (by omega) (by omega))]
      exact HH q q0 g
    · subst g
      rw [q_up_eq, l.2.1]
  · rw [q_sum_s hpp.1, hs]
    refine congrArg (· + _) (q_sum_c (fun k k0 k1 => ?_))
    refine (s_ga_cg k0 (fun j j0 j1 => ?_)).symm
    have bq := HT.1 j j0 (by omega)
    exact l.2.2 _ bq.1 bq.2 (ne j j0 (by omega) (by omega))
  · have q := (rs i).mp hr
    rw [q_up_ne (by decide), Q.2.2 i i0 i1, q_if_f (fun g => by have := g.2; omega), Int.add_zero]
    exact hb i i0 i1 q.1
theorem s_lay_b {φ : Int → Int} (ok : s_ok φ) {h : Int} {S S3 S4 : q_S} {p x sum t : Int} (H : s_layH φ h S p x sum) (hp : p < φ 0) (t0 : 0 ≤ t) (tt : t ≤ s_tp φ (S 23 p)) (Q : s_layQ φ h S S3 p (fun i => s_rch (φ 0) (S 23) (s_tp φ) p x i ∧ s_dg (φ 0) i (S 23 p) < t)) {v : Int}
    (Q2 : s_layQ φ h (q_up S3 24 (S 23 p) v) S4 (p + 1) (fun i => s_rch (φ 0) ((q_up S3 24 (S 23 p) v) 23) (s_tp φ) (p + 1) (x + t * s_p5 (φ 0 - 1 - S 23 p).toNat) i)) : s_layQ φ h S S4 p (fun i => s_rch (φ 0) (S 23) (s_tp φ) p x i ∧ s_dg (φ 0) i (S 23 p) < t + 1) := by
  have c0 := ok.1
  obtain ⟨F, lk, HT, Htp, hpp, hx, hz, HH, hs, hb⟩ := H
  have tp := (s_tp_b (φ := φ) (r := S 23 p)).1
  have e23 : q_up S3 24 (S 23 p) v 23 = S 23 := (q_up_ne (by decide)).trans (Q.1 23 (by decide) (by decide))
  refine ⟨fun a h1 h2 => ((Q2.1 a h1 h2).trans (q_up_ne h2)).trans (Q.1 a h1 h2), fun q q0 q1 => ?_, fun i i0 i1 => ?_⟩
  · have e := Q2.2.1 q q0 (by omega)
    rw [e23] at e
    rw [e, q_up_nz (fun g => by have := HT.2.1 q p q0 q1 hp; rw [g] at this; omega)]
    exact Q.2.1 q q0 q1
  · have e := Q2.2.2 i i0 i1
    rw [e23, q_up_ne (show 21 ≠ 24 by decide), Q.2.2 i i0 i1] at e
    rw [e, Int.add_assoc]
    refine congrArg (S 21 i + ·) ?_
    exact s_rch_sum (i := i) (s_rch_s HT c0.2 hpp.1 hp t0 (by omega) tt hx.1 hx.2 (hz p (Int.le_refl _) hp))
theorem s_lay_x {φ : Int → Int} {h : Int} {S S3 : q_S} {p x t : Int} (hp : p < φ 0) (tt : t = s_tp φ (S 23 p) + 1) (Q : s_layQ φ h S S3 p (fun i => s_rch (φ 0) (S 23) (s_tp φ) p x i ∧ s_dg (φ 0) i (S 23 p) < t)) : s_layQ φ h S S3 p (fun i => s_rch (φ 0) (S 23) (s_tp φ) p x i) := by
  refine ⟨Q.1, Q.2.1, fun i i0 i1 => ?_⟩
  rw [Q.2.2 i i0 i1]
  refine congrArg (S 21 i + ·) ?_
  by_cases g : s_rch (φ 0) (S 23) (s_tp φ) p x i
  · have := g.2 p (Int.le_refl _) hp
    rw [q_if_t ⟨g, by omega⟩, q_if_t g]
  · rw [q_if_f (fun q => g q.1), q_if_f g]
theorem s_lay_0 {φ : Int → Int} {h : Int} {S : q_S} {p x : Int} {r : Int} : s_layQ φ h S S p (fun i => s_rch (φ 0) (S 23) (s_tp φ) p x i ∧ s_dg (φ 0) i r < 0) :=
  ⟨fun _ _ _ => rfl, fun _ _ _ => rfl, fun i _ _ => by rw [q_if_f (fun q => by have := q.2; have := (s_dg_b (R := φ 0) (way := i) (r := r)).1; omega), Int.add_zero]⟩
theorem q_Go_d {Γ : q_G} {M : q_M} {d d' bc bs pc : Nat} {L : List (Nat × Value)} {st : List Value} {w : q_W} {Q : Option Value → q_W → Prop} (h : d ≤ d') (k : q_Go Γ M d bc bs pc L st w Q) : q_Go Γ M d' bc bs pc L st w Q := by
  intro p e R s m args below meth c H locs cells slots Z ls C
  exact k p e R s m args below meth c H locs cells slots Z ls ⟨C.1, C.2.1, C.2.2.1, C.2.2.2.1, C.2.2.2.2.1, C.2.2.2.2.2.1, C.2.2.2.2.2.2.1, C.2.2.2.2.2.2.2.1, C.2.2.2.2.2.2.2.2.1, C.2.2.2.2.2.2.2.2.2.1, by have := C.2.2.2.2.2.2.2.2.2.2; omega⟩
def s_LR (Γ : q_G) (φ : Int → Int) (h : Int) (n : Nat) : Prop := ∀ (S : q_S) (p x sum : Int), s_layH φ h S p x sum → n = (φ 0 - p).toNat → q_Sp Γ mX7_layRows (n + 3) 0 0 [q_r Γ 20, q_i p, q_i x, q_i sum] (KC, S) (fun v9 w9 => v9 = none ∧ ∃ S2, w9 = (KC, S2) ∧ s_layQ φ h S S2 p (fun i => s_rch (φ 0) (S 23) (s_tp φ) p x i))
