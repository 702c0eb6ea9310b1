/-! a field of rows in the block of cells from f on holds what φ says -/
def s_F (S : q_S) (f : Nat) (φ : Int → Int) : Prop := S f 0 = φ 0 ∧ S f 6 = φ 1 ∧ S f 10 = φ 2 ∧ (∀ r, 0 ≤ r → r < 6 → S (f + 1) r = s_pt φ r 0 ∧ S (f + 2) r = s_pt φ r 1 ∧ S (f + 3) r = s_pt φ r 2 ∧ S (f + 4) r = s_pt φ r 3) ∧
  (∀ h, 0 ≤ h → h < 10 → S (f + 5) h = φ (5 + h)) ∧ (∀ j, 0 ≤ j → j < 360 → S (f + 6) j = φ (39 + j)) ∧ S (f + 7) 0 = φ 3 ∧ S (f + 10) 0 = φ 4 ∧
  (∀ i p, 0 ≤ i → i < φ 3 → 0 ≤ p → p < 4 → S (f + 8) (5 * i + p) = s_as φ i p) ∧ (∀ i, 0 ≤ i → i < φ 3 → S (f + 8) (5 * i + 4) = -6) ∧ (∀ i p, 0 ≤ i → i < φ 4 → 0 ≤ p → p < 5 → S (f + 11) (5 * i + p) = s_bd φ i p)
/-- only the field in the cells 1 .. 13 has changed -/
def s_offF (S S2 : q_S) : Prop := ∀ a, (a = 0 ∨ 13 < a) → S2 a = S a
theorem s_offF_r {S : q_S} : s_offF S S := fun _ _ => rfl
theorem s_offF_u {S S2 : q_S} {c : Nat} {z v : Int} (h : s_offF S S2) (h0 : 0 < c) (h1 : c ≤ 13) : s_offF S (q_up S2 c z v) := fun a ha => (q_up_ne (by omega)).trans (h a ha)
theorem s_offF_t {S S2 S3 : q_S} (h : s_offF S S2) (h2 : s_offF S2 S3) : s_offF S S3 := fun a ha => (h2 a ha).trans (h a ha)
/-- a field stays where its cells stay; the sorted numbers are no part of it -/
theorem s_F_o {S S2 : q_S} {f : Nat} {φ : Int → Int} (F : s_F S f φ) (h : ∀ a, f ≤ a → a ≤ f + 11 → a ≠ f + 9 → S2 a = S a) : s_F S2 f φ := by
  unfold s_F
  rw [h f (by omega) (by omega) (by omega), h (f + 1) (by omega) (by omega) (by omega), h (f + 2) (by omega) (by omega) (by omega), h (f + 3) (by omega) (by omega) (by omega), h (f + 4) (by omega) (by omega) (by omega), h (f + 5) (by omega) (by omega) (by omega), h (f + 6) (by omega) (by omega) (by omega), h (f + 7) (by omega) (by omega) (by omega), h (f + 8) (by omega) (by omega) (by omega), h (f + 10) (by omega) (by omega) (by omega), h (f + 11) (by omega) (by omega) (by omega)]
  exact F
theorem s_F_0 {S : q_S} {φ : Int → Int} (F : s_F S 1 φ) : S 1 0 = φ 0 := F.1
theorem s_F_6 {S : q_S} {φ : Int → Int} (F : s_F S 1 φ) : S 1 6 = φ 1 := F.2.1
theorem s_F_10 {S : q_S} {φ : Int → Int} (F : s_F S 1 φ) : S 1 10 = φ 2 := F.2.2.1
theorem s_F_2 {S : q_S} {φ : Int → Int} (F : s_F S 1 φ) {r : Int} (h0 : 0 ≤ r) (h1 : r < 6) : S 2 r = s_pt φ r 0 := (F.2.2.2.1 r h0 h1).1
theorem s_F_3 {S : q_S} {φ : Int → Int} (F : s_F S 1 φ) {r : Int} (h0 : 0 ≤ r) (h1 : r < 6) : S 3 r = s_pt φ r 1 := (F.2.2.2.1 r h0 h1).2.1
theorem s_F_4 {S : q_S} {φ : Int → Int} (F : s_F S 1 φ) {r : Int} (h0 : 0 ≤ r) (h1 : r < 6) : S 4 r = s_pt φ r 2 := (F.2.2.2.1 r h0 h1).2.2.1
theorem s_F_5 {S : q_S} {φ : Int → Int} (F : s_F S 1 φ) {r : Int} (h0 : 0 ≤ r) (h1 : r < 6) : S 5 r = s_pt φ r 3 := (F.2.2.2.1 r h0 h1).2.2.2
theorem s_F_w {S : q_S} {φ : Int → Int} (F : s_F S 1 φ) {h : Int} (h0 : 0 ≤ h) (h1 : h < 10) : S 6 h = φ (5 + h) := F.2.2.2.2.1 h h0 h1
theorem s_F_j {S : q_S} {φ : Int → Int} (F : s_F S 1 φ) {j : Int} (h0 : 0 ≤ j) (h1 : j < 360) : S 7 j = φ (39 + j) := F.2.2.2.2.2.1 j h0 h1
theorem s_F_rt {S : q_S} {φ : Int → Int} (F : s_F S 1 φ) {a b h : Int} (a0 : 0 ≤ a) (a1 : a < 6) (b0 : 0 ≤ b) (b1 : b < 6) (h0 : 0 ≤ h) (h1 : h < 10) : S 7 (10 * (6 * a + b) + h) = s_rt φ a b h := by
  have q := F.2.2.2.2.2.1 (10 * (6 * a + b) + h) (by omega) (by omega)
  rw [show (39 : Int) + (10 * (6 * a + b) + h) = 39 + 10 * (6 * a + b) + h by omega] at q
  exact q
theorem s_F_an {S : q_S} {φ : Int → Int} (F : s_F S 1 φ) : S 8 0 = φ 3 := F.2.2.2.2.2.2.1
theorem s_F_bn {S : q_S} {φ : Int → Int} (F : s_F S 1 φ) : S 11 0 = φ 4 := F.2.2.2.2.2.2.2.1
theorem s_F_a {S : q_S} {φ : Int → Int} (F : s_F S 1 φ) {i p : Int} (i0 : 0 ≤ i) (i1 : i < φ 3) (p0 : 0 ≤ p) (p1 : p < 4) : S 9 (5 * i + p) = s_as φ i p := F.2.2.2.2.2.2.2.2.1 i p i0 i1 p0 p1
theorem s_F_a4 {S : q_S} {φ : Int → Int} (F : s_F S 1 φ) {i : Int} (i0 : 0 ≤ i) (i1 : i < φ 3) : S 9 (5 * i + 4) = -6 := F.2.2.2.2.2.2.2.2.2.1 i i0 i1
theorem s_F_b {S : q_S} {φ : Int → Int} (F : s_F S 1 φ) {i p : Int} (i0 : 0 ≤ i) (i1 : i < φ 4) (p0 : 0 ≤ p) (p1 : p < 5) : S 12 (5 * i + p) = s_bd φ i p := F.2.2.2.2.2.2.2.2.2.2 i p i0 i1 p0 p1
theorem s_F_pl {S : q_S} {φ : Int → Int} {r u : Int} (F : s_F S 1 φ) (r0 : 0 ≤ r) (r1 : r < 6) (a3 : φ 3 ≤ 10) (a4 : φ 4 ≤ 10) : s_F (q_up S 2 r u) 1 (s_set φ (15 + 4 * r + 0) u) := by
  obtain ⟨k0, k6, kt, kr, kw, kj, kn, km, ka, kb, kc⟩ := F
  unfold s_F
  refine ⟨?_, ?_, ?_, fun r' x y => ?_, fun h x y => ?_, fun j x y => ?_, ?_, ?_, fun i p x y x2 y2 => ?_, fun i x y => ?_, fun i p x y x2 y2 => ?_⟩
  · rw [show q_up S 2 r u 1 0 = if 1 = 2 ∧ (0 : Int) = r then u else S 1 0 from rfl, show s_set φ (15 + 4 * r + 0) u 0 = if 0 = 15 + 4 * r + 0 then u else φ 0 from rfl]; omega
  · rw [show q_up S 2 r u 1 6 = if 1 = 2 ∧ (6 : Int) = r then u else S 1 6 from rfl, show s_set φ (15 + 4 * r + 0) u 1 = if 1 = 15 + 4 * r + 0 then u else φ 1 from rfl]; omega
  · rw [show q_up S 2 r u 1 10 = if 1 = 2 ∧ (10 : Int) = r then u else S 1 10 from rfl, show s_set φ (15 + 4 * r + 0) u 2 = if 2 = 15 + 4 * r + 0 then u else φ 2 from rfl]; omega
  · have q := kr r' x y
    simp only [q_up, s_set, s_pt, true_and, false_and] at q ⊢
    omega
  · have q := kw h x y
    simp only [q_up, s_set, true_and, false_and] at q ⊢
    omega
  · have q := kj j x y
    simp only [q_up, s_set, true_and, false_and] at q ⊢
    omega
  · simp only [q_up, s_set, true_and, false_and] at kn ⊢
    omega
  · simp only [q_up, s_set, true_and, false_and] at km ⊢
    omega
  · rw [s_set_ne (by omega)] at y
    have q := ka i p x y x2 y2
    simp only [q_up, s_set, s_as] at q ⊢
    omega
  · rw [s_set_ne (by omega)] at y
    have q := kb i x y
    simp only [q_up] at q ⊢
    omega
  · rw [s_set_ne (by omega)] at y
    have q := kc i p x y x2 y2
    simp only [q_up, s_set, s_bd] at q ⊢
    omega
theorem s_F_le {S : q_S} {φ : Int → Int} {r u : Int} (F : s_F S 1 φ) (r0 : 0 ≤ r) (r1 : r < 6) (a3 : φ 3 ≤ 10) (a4 : φ 4 ≤ 10) : s_F (q_up S 3 r u) 1 (s_set φ (15 + 4 * r + 1) u) := by
  obtain ⟨k0, k6, kt, kr, kw, kj, kn, km, ka, kb, kc⟩ := F
  unfold s_F
  refine ⟨?_, ?_, ?_, fun r' x y => ?_, fun h x y => ?_, fun j x y => ?_, ?_, ?_, fun i p x y x2 y2 => ?_, fun i x y => ?_, fun i p x y x2 y2 => ?_⟩
  · rw [show q_up S 3 r u 1 0 = if 1 = 3 ∧ (0 : Int) = r then u else S 1 0 from rfl, show s_set φ (15 + 4 * r + 1) u 0 = if 0 = 15 + 4 * r + 1 then u else φ 0 from rfl]; omega
  · rw [show q_up S 3 r u 1 6 = if 1 = 3 ∧ (6 : Int) = r then u else S 1 6 from rfl, show s_set φ (15 + 4 * r + 1) u 1 = if 1 = 15 + 4 * r + 1 then u else φ 1 from rfl]; omega
  · rw [show q_up S 3 r u 1 10 = if 1 = 3 ∧ (10 : Int) = r then u else S 1 10 from rfl, show s_set φ (15 + 4 * r + 1) u 2 = if 2 = 15 + 4 * r + 1 then u else φ 2 from rfl]; omega
  · have q := kr r' x y
    simp only [q_up, s_set, s_pt, true_and, false_and] at q ⊢
    omega
  · have q := kw h x y
    simp only [q_up, s_set, true_and, false_and] at q ⊢
    omega
  · have q := kj j x y
    simp only [q_up, s_set, true_and, false_and] at q ⊢
    omega
  · simp only [q_up, s_set, true_and, false_and] at kn ⊢
    omega
  · simp only [q_up, s_set, true_and, false_and] at km ⊢
    omega
  · rw [s_set_ne (by omega)] at y
    have q := ka i p x y x2 y2
    simp only [q_up, s_set, s_as] at q ⊢
    omega
  · rw [s_set_ne (by omega)] at y
    have q := kb i x y
    simp only [q_up] at q ⊢
    omega
  · rw [s_set_ne (by omega)] at y
    have q := kc i p x y x2 y2
    simp only [q_up, s_set, s_bd] at q ⊢
    omega
theorem s_F_ti {S : q_S} {φ : Int → Int} {r u : Int} (F : s_F S 1 φ) (r0 : 0 ≤ r) (r1 : r < 6) (a3 : φ 3 ≤ 10) (a4 : φ 4 ≤ 10) : s_F (q_up S 4 r u) 1 (s_set φ (15 + 4 * r + 2) u) := by
  obtain ⟨k0, k6, kt, kr, kw, kj, kn, km, ka, kb, kc⟩ := F
  unfold s_F
  refine ⟨?_, ?_, ?_, fun r' x y => ?_, fun h x y => ?_, fun j x y => ?_, ?_, ?_, fun i p x y x2 y2 => ?_, fun i x y => ?_, fun i p x y x2 y2 => ?_⟩
  · rw [show q_up S 4 r u 1 0 = if 1 = 4 ∧ (0 : Int) = r then u else S 1 0 from rfl, show s_set φ (15 + 4 * r + 2) u 0 = if 0 = 15 + 4 * r + 2 then u else φ 0 from rfl]; omega
  · rw [show q_up S 4 r u 1 6 = if 1 = 4 ∧ (6 : Int) = r then u else S 1 6 from rfl, show s_set φ (15 + 4 * r + 2) u 1 = if 1 = 15 + 4 * r + 2 then u else φ 1 from rfl]; omega
  · rw [show q_up S 4 r u 1 10 = if 1 = 4 ∧ (10 : Int) = r then u else S 1 10 from rfl, show s_set φ (15 + 4 * r + 2) u 2 = if 2 = 15 + 4 * r + 2 then u else φ 2 from rfl]; omega
  · have q := kr r' x y
    simp only [q_up, s_set, s_pt, true_and, false_and] at q ⊢
    omega
  · have q := kw h x y
    simp only [q_up, s_set, true_and, false_and] at q ⊢
    omega
  · have q := kj j x y
    simp only [q_up, s_set, true_and, false_and] at q ⊢
    omega
  · simp only [q_up, s_set, true_and, false_and] at kn ⊢
    omega
  · simp only [q_up, s_set, true_and, false_and] at km ⊢
    omega
  · rw [s_set_ne (by omega)] at y
    have q := ka i p x y x2 y2
    simp only [q_up, s_set, s_as] at q ⊢
    omega
  · rw [s_set_ne (by omega)] at y
    have q := kb i x y
    simp only [q_up] at q ⊢
    omega
  · rw [s_set_ne (by omega)] at y
    have q := kc i p x y x2 y2
    simp only [q_up, s_set, s_bd] at q ⊢
    omega
theorem s_F_pu {S : q_S} {φ : Int → Int} {r u : Int} (F : s_F S 1 φ) (r0 : 0 ≤ r) (r1 : r < 6) (a3 : φ 3 ≤ 10) (a4 : φ 4 ≤ 10) : s_F (q_up S 5 r u) 1 (s_set φ (15 + 4 * r + 3) u) := by
  obtain ⟨k0, k6, kt, kr, kw, kj, kn, km, ka, kb, kc⟩ := F
  unfold s_F
  refine ⟨?_, ?_, ?_, fun r' x y => ?_, fun h x y => ?_, fun j x y => ?_, ?_, ?_, fun i p x y x2 y2 => ?_, fun i x y => ?_, fun i p x y x2 y2 => ?_⟩
  · rw [show q_up S 5 r u 1 0 = if 1 = 5 ∧ (0 : Int) = r then u else S 1 0 from rfl, show s_set φ (15 + 4 * r + 3) u 0 = if 0 = 15 + 4 * r + 3 then u else φ 0 from rfl]; omega
  · rw [show q_up S 5 r u 1 6 = if 1 = 5 ∧ (6 : Int) = r then u else S 1 6 from rfl, show s_set φ (15 + 4 * r + 3) u 1 = if 1 = 15 + 4 * r + 3 then u else φ 1 from rfl]; omega
  · rw [show q_up S 5 r u 1 10 = if 1 = 5 ∧ (10 : Int) = r then u else S 1 10 from rfl, show s_set φ (15 + 4 * r + 3) u 2 = if 2 = 15 + 4 * r + 3 then u else φ 2 from rfl]; omega
  · have q := kr r' x y
    simp only [q_up, s_set, s_pt, true_and, false_and] at q ⊢
    omega
  · have q := kw h x y
    simp only [q_up, s_set, true_and, false_and] at q ⊢
    omega
  · have q := kj j x y
    simp only [q_up, s_set, true_and, false_and] at q ⊢
    omega
  · simp only [q_up, s_set, true_and, false_and] at kn ⊢
    omega
  · simp only [q_up, s_set, true_and, false_and] at km ⊢
    omega
  · rw [s_set_ne (by omega)] at y
    have q := ka i p x y x2 y2
    simp only [q_up, s_set, s_as] at q ⊢
    omega
  · rw [s_set_ne (by omega)] at y
    have q := kb i x y
    simp only [q_up] at q ⊢
    omega
  · rw [s_set_ne (by omega)] at y
    have q := kc i p x y x2 y2
    simp only [q_up, s_set, s_bd] at q ⊢
    omega
theorem s_F_wi {S : q_S} {φ : Int → Int} {r u : Int} (F : s_F S 1 φ) (r0 : 0 ≤ r) (r1 : r < 10) (a3 : φ 3 ≤ 10) (a4 : φ 4 ≤ 10) : s_F (q_up S 6 r u) 1 (s_set φ (5 + r) u) := by
  obtain ⟨k0, k6, kt, kr, kw, kj, kn, km, ka, kb, kc⟩ := F
  unfold s_F
  refine ⟨?_, ?_, ?_, fun r' x y => ?_, fun h x y => ?_, fun j x y => ?_, ?_, ?_, fun i p x y x2 y2 => ?_, fun i x y => ?_, fun i p x y x2 y2 => ?_⟩
  · rw [show q_up S 6 r u 1 0 = if 1 = 6 ∧ (0 : Int) = r then u else S 1 0 from rfl, show s_set φ (5 + r) u 0 = if 0 = 5 + r then u else φ 0 from rfl]; omega
  · rw [show q_up S 6 r u 1 6 = if 1 = 6 ∧ (6 : Int) = r then u else S 1 6 from rfl, show s_set φ (5 + r) u 1 = if 1 = 5 + r then u else φ 1 from rfl]; omega
  · rw [show q_up S 6 r u 1 10 = if 1 = 6 ∧ (10 : Int) = r then u else S 1 10 from rfl, show s_set φ (5 + r) u 2 = if 2 = 5 + r then u else φ 2 from rfl]; omega
  · have q := kr r' x y
    simp only [q_up, s_set, s_pt, true_and, false_and] at q ⊢
    omega
  · have q := kw h x y
    simp only [q_up, s_set, true_and, false_and] at q ⊢
    omega
  · have q := kj j x y
    simp only [q_up, s_set, true_and, false_and] at q ⊢
    omega
  · simp only [q_up, s_set, true_and, false_and] at kn ⊢
    omega
  · simp only [q_up, s_set, true_and, false_and] at km ⊢
    omega
  · rw [s_set_ne (by omega)] at y
    have q := ka i p x y x2 y2
    simp only [q_up, s_set, s_as] at q ⊢
    omega
  · rw [s_set_ne (by omega)] at y
    have q := kb i x y
    simp only [q_up] at q ⊢
    omega
  · rw [s_set_ne (by omega)] at y
    have q := kc i p x y x2 y2
    simp only [q_up, s_set, s_bd] at q ⊢
    omega
theorem s_F_ri {S : q_S} {φ : Int → Int} {r u : Int} (F : s_F S 1 φ) (r0 : 0 ≤ r) (r1 : r < 360) (a3 : φ 3 ≤ 10) (a4 : φ 4 ≤ 10) : s_F (q_up S 7 r u) 1 (s_set φ (39 + r) u) := by
  obtain ⟨k0, k6, kt, kr, kw, kj, kn, km, ka, kb, kc⟩ := F
  unfold s_F
  refine ⟨?_, ?_, ?_, fun r' x y => ?_, fun h x y => ?_, fun j x y => ?_, ?_, ?_, fun i p x y x2 y2 => ?_, fun i x y => ?_, fun i p x y x2 y2 => ?_⟩
  · rw [show q_up S 7 r u 1 0 = if 1 = 7 ∧ (0 : Int) = r then u else S 1 0 from rfl, show s_set φ (39 + r) u 0 = if 0 = 39 + r then u else φ 0 from rfl]; omega
  · rw [show q_up S 7 r u 1 6 = if 1 = 7 ∧ (6 : Int) = r then u else S 1 6 from rfl, show s_set φ (39 + r) u 1 = if 1 = 39 + r then u else φ 1 from rfl]; omega
  · rw [show q_up S 7 r u 1 10 = if 1 = 7 ∧ (10 : Int) = r then u else S 1 10 from rfl, show s_set φ (39 + r) u 2 = if 2 = 39 + r then u else φ 2 from rfl]; omega
  · have q := kr r' x y
    simp only [q_up, s_set, s_pt, true_and, false_and] at q ⊢
    omega
  · have q := kw h x y
    simp only [q_up, s_set, true_and, false_and] at q ⊢
    omega
  · have q := kj j x y
    simp only [q_up, s_set, true_and, false_and] at q ⊢
    omega
  · simp only [q_up, s_set, true_and, false_and] at kn ⊢
    omega
  · simp only [q_up, s_set, true_and, false_and] at km ⊢
    omega
  · rw [s_set_ne (by omega)] at y
    have q := ka i p x y x2 y2
    simp only [q_up, s_set, s_as] at q ⊢
    omega
  · rw [s_set_ne (by omega)] at y
    have q := kb i x y
    simp only [q_up] at q ⊢
    omega
  · rw [s_set_ne (by omega)] at y
    have q := kc i p x y x2 y2
    simp only [q_up, s_set, s_bd] at q ⊢
    omega
theorem s_F_ro {S : q_S} {φ : Int → Int} {r u : Int} (F : s_F S 1 φ) (a3 : φ 3 ≤ 10) (a4 : φ 4 ≤ 10) : s_F (q_up S 1 0 u) 1 (s_set φ (0) u) := by
  obtain ⟨k0, k6, kt, kr, kw, kj, kn, km, ka, kb, kc⟩ := F
  unfold s_F
  refine ⟨?_, ?_, ?_, fun r' x y => ?_, fun h x y => ?_, fun j x y => ?_, ?_, ?_, fun i p x y x2 y2 => ?_, fun i x y => ?_, fun i p x y x2 y2 => ?_⟩
  · rw [show q_up S 1 0 u 1 0 = if 1 = 1 ∧ (0 : Int) = 0 then u else S 1 0 from rfl, show s_set φ (0) u 0 = if 0 = 0 then u else φ 0 from rfl]; omega
  · rw [show q_up S 1 0 u 1 6 = if 1 = 1 ∧ (6 : Int) = 0 then u else S 1 6 from rfl, show s_set φ (0) u 1 = if 1 = 0 then u else φ 1 from rfl]; omega
  · rw [show q_up S 1 0 u 1 10 = if 1 = 1 ∧ (10 : Int) = 0 then u else S 1 10 from rfl, show s_set φ (0) u 2 = if 2 = 0 then u else φ 2 from rfl]; omega
  · have q := kr r' x y
    simp only [q_up, s_set, s_pt, true_and, false_and] at q ⊢
    omega
  · have q := kw h x y
    simp only [q_up, s_set, true_and, false_and] at q ⊢
    omega
  · have q := kj j x y
    simp only [q_up, s_set, true_and, false_and] at q ⊢
    omega
  · simp only [q_up, s_set, true_and, false_and] at kn ⊢
    omega
  · simp only [q_up, s_set, true_and, false_and] at km ⊢
    omega
  · rw [s_set_ne (by omega)] at y
    have q := ka i p x y x2 y2
    simp only [q_up, s_set, s_as] at q ⊢
    omega
  · rw [s_set_ne (by omega)] at y
    have q := kb i x y
    simp only [q_up] at q ⊢
    omega
  · rw [s_set_ne (by omega)] at y
    have q := kc i p x y x2 y2
    simp only [q_up, s_set, s_bd] at q ⊢
    omega
theorem s_F_so {S : q_S} {φ : Int → Int} {r u : Int} (F : s_F S 1 φ) (a3 : φ 3 ≤ 10) (a4 : φ 4 ≤ 10) : s_F (q_up S 1 6 u) 1 (s_set φ (1) u) := by
  obtain ⟨k0, k6, kt, kr, kw, kj, kn, km, ka, kb, kc⟩ := F
  unfold s_F
  refine ⟨?_, ?_, ?_, fun r' x y => ?_, fun h x y => ?_, fun j x y => ?_, ?_, ?_, fun i p x y x2 y2 => ?_, fun i x y => ?_, fun i p x y x2 y2 => ?_⟩
  · rw [show q_up S 1 6 u 1 0 = if 1 = 1 ∧ (0 : Int) = 6 then u else S 1 0 from rfl, show s_set φ (1) u 0 = if 0 = 1 then u else φ 0 from rfl]; omega
  · rw [show q_up S 1 6 u 1 6 = if 1 = 1 ∧ (6 : Int) = 6 then u else S 1 6 from rfl, show s_set φ (1) u 1 = if 1 = 1 then u else φ 1 from rfl]; omega
  · rw [show q_up S 1 6 u 1 10 = if 1 = 1 ∧ (10 : Int) = 6 then u else S 1 10 from rfl, show s_set φ (1) u 2 = if 2 = 1 then u else φ 2 from rfl]; omega
  · have q := kr r' x y
    simp only [q_up, s_set, s_pt, true_and, false_and] at q ⊢
    omega
  · have q := kw h x y
    simp only [q_up, s_set, true_and, false_and] at q ⊢
    omega
  · have q := kj j x y
    simp only [q_up, s_set, true_and, false_and] at q ⊢
    omega
  · simp only [q_up, s_set, true_and, false_and] at kn ⊢
    omega
  · simp only [q_up, s_set, true_and, false_and] at km ⊢
    omega
  · rw [s_set_ne (by omega)] at y
    have q := ka i p x y x2 y2
    simp only [q_up, s_set, s_as] at q ⊢
    omega
  · rw [s_set_ne (by omega)] at y
    have q := kb i x y
    simp only [q_up] at q ⊢
    omega
  · rw [s_set_ne (by omega)] at y
    have q := kc i p x y x2 y2
    simp only [q_up, s_set, s_bd] at q ⊢
    omega
theorem s_F_td {S : q_S} {φ : Int → Int} {r u : Int} (F : s_F S 1 φ) (a3 : φ 3 ≤ 10) (a4 : φ 4 ≤ 10) : s_F (q_up S 1 10 u) 1 (s_set φ (2) u) := by
  obtain ⟨k0, k6, kt, kr, kw, kj, kn, km, ka, kb, kc⟩ := F
  unfold s_F
  refine ⟨?_, ?_, ?_, fun r' x y => ?_, fun h x y => ?_, fun j x y => ?_, ?_, ?_, fun i p x y x2 y2 => ?_, fun i x y => ?_, fun i p x y x2 y2 => ?_⟩
  · rw [show q_up S 1 10 u 1 0 = if 1 = 1 ∧ (0 : Int) = 10 then u else S 1 0 from rfl, show s_set φ (2) u 0 = if 0 = 2 then u else φ 0 from rfl]; omega
  · rw [show q_up S 1 10 u 1 6 = if 1 = 1 ∧ (6 : Int) = 10 then u else S 1 6 from rfl, show s_set φ (2) u 1 = if 1 = 2 then u else φ 1 from rfl]; omega
  · rw [show q_up S 1 10 u 1 10 = if 1 = 1 ∧ (10 : Int) = 10 then u else S 1 10 from rfl, show s_set φ (2) u 2 = if 2 = 2 then u else φ 2 from rfl]; omega
  · have q := kr r' x y
    simp only [q_up, s_set, s_pt, true_and, false_and] at q ⊢
    omega
  · have q := kw h x y
    simp only [q_up, s_set, true_and, false_and] at q ⊢
    omega
  · have q := kj j x y
    simp only [q_up, s_set, true_and, false_and] at q ⊢
    omega
  · simp only [q_up, s_set, true_and, false_and] at kn ⊢
    omega
  · simp only [q_up, s_set, true_and, false_and] at km ⊢
    omega
  · rw [s_set_ne (by omega)] at y
    have q := ka i p x y x2 y2
    simp only [q_up, s_set, s_as] at q ⊢
    omega
  · rw [s_set_ne (by omega)] at y
    have q := kb i x y
    simp only [q_up] at q ⊢
    omega
  · rw [s_set_ne (by omega)] at y
    have q := kc i p x y x2 y2
    simp only [q_up, s_set, s_bd] at q ⊢
    omega
/-! changes of a field, as functions of φ -/
noncomputable def s_tiltP (φ : Int → Int) (r u : Int) : Int → Int := if s_wTilt φ r u < 0 then φ else s_set φ (15 + 4 * r + 2) u
noncomputable def s_grantP (φ : Int → Int) (a b h u : Int) : Int → Int := if s_wGrant φ a b h u < 0 then φ else s_set φ (39 + 10 * (6 * a + b) + h) u
noncomputable def s_windP (φ : Int → Int) (h u : Int) : Int → Int := if s_wWind h u < 0 then φ else s_set φ (5 + h) u
noncomputable def s_stowP (φ : Int → Int) (u : Int) : Int → Int := if ¬ (1 ≤ u ∧ u ≤ 10) then φ else s_set φ 1 u
noncomputable def s_rowP (φ : Int → Int) (p l u : Int) : Int → Int := if s_rowV φ p l u < 0 then φ else s_set (s_set (s_set (s_set (s_set φ (15 + 4 * φ 0 + 0) p) (15 + 4 * φ 0 + 1) l) (15 + 4 * φ 0 + 2) u) (15 + 4 * φ 0 + 3) 0) 0 (φ 0 + 1)
theorem s_set_id {φ : Int → Int} {j v : Int} (h : φ j = v) : s_set φ j v = φ := by
  funext z
  unfold s_set
  split
  · rename_i q; rw [q, h]
  · rfl
theorem s_rowV_1 {φ : Int → Int} {p l u : Int} (h : ¬ ((0 ≤ p ∧ p ≤ 200) ∧ (1 ≤ l ∧ l ≤ 20) ∧ (0 ≤ u ∧ u ≤ 4))) : s_rowV φ p l u = -2 := if_pos h
theorem s_rowV_2 {φ : Int → Int} {p l u : Int} (h : (0 ≤ p ∧ p ≤ 200) ∧ (1 ≤ l ∧ l ≤ 20) ∧ (0 ≤ u ∧ u ≤ 4)) (h6 : φ 0 = 6) : s_rowV φ p l u = -4 := by
  unfold s_rowV
  rw [if_neg (by omega), if_pos h6]
theorem s_rowV_3 {φ : Int → Int} {p l u : Int} (h : (0 ≤ p ∧ p ≤ 200) ∧ (1 ≤ l ∧ l ≤ 20) ∧ (0 ≤ u ∧ u ≤ 4)) (h6 : φ 0 ≠ 6) (ht : s_taken φ p) : s_rowV φ p l u = -5 := by
  unfold s_rowV
  rw [if_neg (by omega), if_neg h6]
  exact q_if_t ht
theorem s_rowV_4 {φ : Int → Int} {p l u : Int} (h : (0 ≤ p ∧ p ≤ 200) ∧ (1 ≤ l ∧ l ≤ 20) ∧ (0 ≤ u ∧ u ≤ 4)) (h6 : φ 0 ≠ 6) (ht : ¬ s_taken φ p) : s_rowV φ p l u = φ 0 := by
  unfold s_rowV
  rw [if_neg (by omega), if_neg h6]
  exact q_if_f ht
