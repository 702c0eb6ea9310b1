/-! what would be: worth, the best tilts -/
def s_set (φ : Int → Int) (j v : Int) : Int → Int := fun z => if z = j then v else φ z
theorem q_up_fn {S : q_S} {a : Nat} {j v : Int} : q_up S a j v a = s_set (S a) j v := by funext z; simp [q_up, s_set]
theorem q_up_up {S : q_S} {a : Nat} {j v u : Int} : q_up (q_up S a j v) a j u = q_up S a j u := by
  funext x z
  simp only [q_up]
  split <;> rfl
theorem q_up_self {S : q_S} {a : Nat} {j : Int} : q_up S a j (S a j) = S := by
  funext x z
  simp only [q_up]
  split
  · rename_i h; rw [h.1, h.2]
  · rfl
theorem q_up_back {S : q_S} {a : Nat} {j v : Int} : q_up (q_up S a j v) a j (S a j) = S := by rw [q_up_up, q_up_self]
theorem s_set_ne {φ : Int → Int} {j v z : Int} (h : z ≠ j) : s_set φ j v z = φ z := if_neg h
theorem s_set_eq {φ : Int → Int} {j v : Int} : s_set φ j v j = v := if_pos rfl
/-- all stays in its bounds: by places -/
theorem s_ok_iff (φ : Int → Int) : s_ok φ ↔ (0 ≤ φ 0 ∧ φ 0 ≤ 6) ∧ (1 ≤ φ 1 ∧ φ 1 ≤ 10) ∧ (0 ≤ φ 3 ∧ φ 3 ≤ 10) ∧ (0 ≤ φ 4 ∧ φ 4 ≤ 10) ∧ (∀ h, 0 ≤ h → h < 10 → 0 ≤ φ (5 + h) ∧ φ (5 + h) ≤ 9) ∧
  (∀ r, 0 ≤ r → r < 6 → (0 ≤ φ (15 + 4 * r + 0) ∧ φ (15 + 4 * r + 0) ≤ 200) ∧ (0 ≤ φ (15 + 4 * r + 1) ∧ φ (15 + 4 * r + 1) ≤ 20) ∧ (0 ≤ φ (15 + 4 * r + 2) ∧ φ (15 + 4 * r + 2) ≤ 4)) ∧
  (∀ a b h, 0 ≤ a → a < 6 → 0 ≤ b → b < 6 → 0 ≤ h → h < 10 → 0 ≤ φ (39 + 10 * (6 * a + b) + h) ∧ φ (39 + 10 * (6 * a + b) + h) ≤ 999) ∧
  (∀ i, 0 ≤ i → i < 10 → (0 ≤ φ (399 + 4 * i + 0) ∧ φ (399 + 4 * i + 0) ≤ 5) ∧ (0 ≤ φ (399 + 4 * i + 1) ∧ φ (399 + 4 * i + 1) ≤ 9) ∧ (0 ≤ φ (399 + 4 * i + 2) ∧ φ (399 + 4 * i + 2) ≤ 200) ∧ (0 ≤ φ (399 + 4 * i + 3) ∧ φ (399 + 4 * i + 3) ≤ 999)) ∧
  (∀ i, 0 ≤ i → i < 10 → (0 ≤ φ (439 + 5 * i + 0) ∧ φ (439 + 5 * i + 0) ≤ 5) ∧ (0 ≤ φ (439 + 5 * i + 1) ∧ φ (439 + 5 * i + 1) ≤ 9) ∧ (0 ≤ φ (439 + 5 * i + 2) ∧ φ (439 + 5 * i + 2) ≤ 200) ∧ (0 ≤ φ (439 + 5 * i + 3) ∧ φ (439 + 5 * i + 3) ≤ 999) ∧ (0 ≤ φ (439 + 5 * i + 4) ∧ φ (439 + 5 * i + 4) ≤ 5)) := Iff.rfl
theorem s_ok_rt {φ : Int → Int} (ok : s_ok φ) {a b h u : Int} (a0 : 0 ≤ a) (a1 : a < 6) (b0 : 0 ≤ b) (b1 : b < 6) (h0 : 0 ≤ h) (h1 : h < 10) (u0 : 0 ≤ u) (u1 : u ≤ 999) : s_ok (s_set φ (39 + 10 * (6 * a + b) + h) u) := by
  rw [s_ok_iff] at ok ⊢
  obtain ⟨k1, k2, k3, k4, k5, k6, k7, k8, k9⟩ := ok
  refine ⟨?_, ?_, ?_, ?_, fun h' x y => ?_, fun r x y => ?_, fun a' b' h' x1 x2 x3 x4 x5 x6 => ?_, fun i x y => ?_, fun i x y => ?_⟩
  · rw [s_set_ne (by omega)]; exact k1
  · rw [s_set_ne (by omega)]; exact k2
  · rw [s_set_ne (by omega)]; exact k3
  · rw [s_set_ne (by omega)]; exact k4
  · rw [s_set_ne (by omega)]; exact k5 h' x y
  · rw [s_set_ne (by omega), s_set_ne (by omega), s_set_ne (by omega)]; exact k6 r x y
  · unfold s_set; split
    · omega
    · exact k7 a' b' h' x1 x2 x3 x4 x5 x6
  · rw [s_set_ne (by omega), s_set_ne (by omega), s_set_ne (by omega), s_set_ne (by omega)]; exact k8 i x y
  · rw [s_set_ne (by omega), s_set_ne (by omega), s_set_ne (by omega), s_set_ne (by omega), s_set_ne (by omega)]; exact k9 i x y
theorem s_ok_tilt {φ : Int → Int} (ok : s_ok φ) {r u : Int} (r0 : 0 ≤ r) (r1 : r < 6) (u0 : 0 ≤ u) (u1 : u ≤ 4) : s_ok (s_set φ (15 + 4 * r + 2) u) := by
  rw [s_ok_iff] at ok ⊢
  obtain ⟨k1, k2, k3, k4, k5, k6, k7, k8, k9⟩ := ok
  refine ⟨?_, ?_, ?_, ?_, fun h' x y => ?_, fun r' x y => ?_, fun a' b' h' x1 x2 x3 x4 x5 x6 => ?_, fun i x y => ?_, fun i x y => ?_⟩
  · rw [s_set_ne (by omega)]; exact k1
  · rw [s_set_ne (by omega)]; exact k2
  · rw [s_set_ne (by omega)]; exact k3
  · rw [s_set_ne (by omega)]; exact k4
  · rw [s_set_ne (by omega)]; exact k5 h' x y
  · have h9 := k6 r' x y
    rw [s_set_ne (show 15 + 4 * r' + 0 ≠ 15 + 4 * r + 2 by omega), s_set_ne (show 15 + 4 * r' + 1 ≠ 15 + 4 * r + 2 by omega)]
    refine ⟨h9.1, h9.2.1, ?_⟩
    unfold s_set; split
    · omega
    · exact h9.2.2
  · rw [s_set_ne (by omega)]; exact k7 a' b' h' x1 x2 x3 x4 x5 x6
  · rw [s_set_ne (by omega), s_set_ne (by omega), s_set_ne (by omega), s_set_ne (by omega)]; exact k8 i x y
  · rw [s_set_ne (by omega), s_set_ne (by omega), s_set_ne (by omega), s_set_ne (by omega), s_set_ne (by omega)]; exact k9 i x y
noncomputable def s_wv (φ : Int → Int) (a b w : Int) : Int := if w = 0 then s_yo φ a else if w = 1 then s_yo φ b else s_all φ
noncomputable def s_worth (φ : Int → Int) (a b h u w : Int) : Int := if s_wGrant φ a b h u < 0 then s_wGrant φ a b h u else if ¬ (0 ≤ w ∧ w ≤ 2) then -2 else
  1000000 + (if w = 1 then s_wv φ a b w - s_wv (s_set φ (39 + 10 * (6 * a + b) + h) u) a b w else s_wv (s_set φ (39 + 10 * (6 * a + b) + h) u) a b w - s_wv φ a b w)
noncomputable def s_btN (φ : Int → Int) (r : Int) : Nat → Int × Int
  | 0 => (0, -1)
  | n + 1 => (q_if ((s_btN φ r n).2 < s_all (s_set φ (15 + 4 * r + 2) n)) n (s_btN φ r n).1, q_if ((s_btN φ r n).2 < s_all (s_set φ (15 + 4 * r + 2) n)) (s_all (s_set φ (15 + 4 * r + 2) n)) (s_btN φ r n).2)
theorem s_btN_s {φ : Int → Int} {r k : Int} (h0 : 0 ≤ k) : s_btN φ r (k + 1).toNat = (q_if ((s_btN φ r k.toNat).2 < s_all (s_set φ (15 + 4 * r + 2) k)) k (s_btN φ r k.toNat).1, q_if ((s_btN φ r k.toNat).2 < s_all (s_set φ (15 + 4 * r + 2) k)) (s_all (s_set φ (15 + 4 * r + 2) k)) (s_btN φ r k.toNat).2) := by
  obtain ⟨n, rfl⟩ : ∃ n : Nat, k = n := ⟨k.toNat, by omega⟩
  rw [show ((n : Int) + 1).toNat = n + 1 by omega, Int.toNat_natCast]
  rfl
noncomputable def s_best1 (φ : Int → Int) (r w : Int) : Int := if ¬ (0 ≤ r ∧ r < φ 0) then -1 else if ¬ (0 ≤ w ∧ w ≤ 1) then -2 else if w = 0 then (s_btN φ r 5).1 else (s_btN φ r 5).2
/-! the best tilts together: tables, all yields by tilts tl, the sets of tilts as numbers -/
def s_hx (φ : Int → Int) (a t b h : Int) : Int := if a = b then 0 else s_sh φ a t b h
/-- the tables hold what they must for the triples before N -/
def s_FH (φ : Int → Int) (S : q_S) (N : Int) : Prop := ∀ a t h, 0 ≤ a → a < φ 0 → 0 ≤ t → t < 5 → 0 ≤ h → h < 10 → 10 * (5 * a + t) + h < N → S 156 (10 * (5 * a + t) + h) = s_ti φ a t h ∧ ∀ b, 0 ≤ b → b < φ 0 → S 157 (10 * (6 * (5 * a + t) + b) + h) = s_hx φ a t b h
/-- nothing else has changed -/
def s_off (S S' : q_S) (X : Nat → Prop) : Prop := ∀ a, ¬ X a → S' a = S a
theorem s_off_r {S : q_S} {X : Nat → Prop} : s_off S S X := fun _ _ => rfl
theorem s_off_u {S S' : q_S} {X : Nat → Prop} {a : Nat} {z v : Int} (h : s_off S S' X) (hx : X a) : s_off S (q_up S' a z v) X := fun b hb => by
  have hne : b ≠ a := fun e => hb (by rw [e]; exact hx)
  rw [q_up_ne hne]
  exact h b hb
theorem s_off_t {S S' S2 : q_S} {X : Nat → Prop} (h : s_off S S' X) (h2 : s_off S' S2 X) : s_off S S2 X := fun b hb => (h2 b hb).trans (h b hb)
theorem s_FH_l {φ : Int → Int} {S : q_S} {N v : Int} (h : s_FH φ S N) : s_FH φ (q_up S 156 N v) N := fun a t k a0 a1 t0 t1 k0 k1 hN => by
  have h2 := h a t k a0 a1 t0 t1 k0 k1 hN
  rw [q_up_nz (by omega), q_up_ne (by decide)]
  exact h2
theorem s_FH_h {φ : Int → Int} {S : q_S} {a t b k v : Int} (hr : φ 0 ≤ 6) (b0 : 0 ≤ b) (b1 : b < 6) (k0 : 0 ≤ k) (k1 : k < 10) (h : s_FH φ S (10 * (5 * a + t) + k)) : s_FH φ (q_up S 157 (10 * (6 * (5 * a + t) + b) + k) v) (10 * (5 * a + t) + k) := fun a' t' k' a0' a1' t0' t1' k0' k1' hN => by
  have h2 := h a' t' k' a0' a1' t0' t1' k0' k1' hN
  refine ⟨by rw [q_up_ne (by decide)]; exact h2.1, fun b' b0' b1' => ?_⟩
  rw [q_up_nz (by omega)]
  exact h2.2 b' b0' b1'
theorem s_FH_s {φ : Int → Int} {S : q_S} {a t k : Int} (a0 : 0 ≤ a) (a1 : a < φ 0) (t0 : 0 ≤ t) (t1 : t < 5) (k0 : 0 ≤ k) (k1 : k < 10) (h : s_FH φ S (10 * (5 * a + t) + k)) (hl : S 156 (10 * (5 * a + t) + k) = s_ti φ a t k)
    (hb : ∀ b, 0 ≤ b → b < φ 0 → S 157 (10 * (6 * (5 * a + t) + b) + k) = s_hx φ a t b k) : s_FH φ S (10 * (5 * a + t) + k + 1) := fun a' t' k' a0' a1' t0' t1' k0' k1' hN => by
  by_cases e : 10 * (5 * a' + t') + k' < 10 * (5 * a + t) + k
  · exact h a' t' k' a0' a1' t0' t1' k0' k1' e
  · have e1 : a' = a := by omega
    have e2 : t' = t := by omega
    have e3 : k' = k := by omega
    subst e1; subst e2; subst e3
    exact ⟨hl, hb⟩
/-- how high a shadow comes up at the most, of the first n rows, with the tilts tl -/
noncomputable def s_mx (φ : Int → Int) (tl : Int → Int) (r h : Int) : Nat → Int
  | 0 => 0
  | n + 1 => max (s_mx φ tl r h n) (s_hx φ n (s_ti φ n (tl n) h) r h)
noncomputable def s_g1 (φ : Int → Int) (tl : Int → Int) (h r : Int) : Int := s_pt φ r 1 + max 0 (s_pt φ r 1 * s_ti φ r (tl r) h - s_mx φ tl r h (φ 0).toNat) * s_sun h
noncomputable def s_tot (φ : Int → Int) (tl : Int → Int) : Int := q_sum (fun h => q_sum (s_g1 φ tl h) (φ 0).toNat) 10
def s_p5 : Nat → Int
  | 0 => 1
  | n + 1 => s_p5 n * 5
/-- the tilt of the row r in the set with the number way -/
def s_dg (R way r : Int) : Int := way / s_p5 (R - 1 - r).toNat % 5
noncomputable def s_bwN (φ : Int → Int) : Nat → Int × Int
  | 0 => (0, -1)
  | n + 1 => (q_if ((s_bwN φ n).2 < s_tot φ (s_dg (φ 0) n)) n (s_bwN φ n).1, q_if ((s_bwN φ n).2 < s_tot φ (s_dg (φ 0) n)) (s_tot φ (s_dg (φ 0) n)) (s_bwN φ n).2)
noncomputable def s_best (φ : Int → Int) (w : Int) : Int := if w ≠ 9 ∧ ¬ (0 ≤ w ∧ w < φ 0) then -2 else if w = 9 then (s_bwN φ (s_p5 (φ 0).toNat).toNat).2 else s_dg (φ 0) (s_bwN φ (s_p5 (φ 0).toNat).toNat).1 w
theorem s_bwN_s {φ : Int → Int} {k : Int} (h0 : 0 ≤ k) : s_bwN φ (k + 1).toNat = (q_if ((s_bwN φ k.toNat).2 < s_tot φ (s_dg (φ 0) k)) k (s_bwN φ k.toNat).1, q_if ((s_bwN φ k.toNat).2 < s_tot φ (s_dg (φ 0) k)) (s_tot φ (s_dg (φ 0) k)) (s_bwN φ k.toNat).2) := by
  obtain ⟨n, rfl⟩ : ∃ n : Nat, k = n := ⟨k.toNat, by omega⟩
  rw [show ((n : Int) + 1).toNat = n + 1 by omega, Int.toNat_natCast]
  rfl
theorem s_mx_s {φ : Int → Int} {tl : Int → Int} {r h k : Int} (h0 : 0 ≤ k) : s_mx φ tl r h (k + 1).toNat = max (s_mx φ tl r h k.toNat) (s_hx φ k (s_ti φ k (tl k) h) r h) := by
  obtain ⟨n, rfl⟩ : ∃ n : Nat, k = n := ⟨k.toNat, by omega⟩
  rw [show ((n : Int) + 1).toNat = n + 1 by omega, Int.toNat_natCast]
  rfl
theorem s_p5_pos (n : Nat) : 1 ≤ s_p5 n := by
  induction n with
  | zero => decide
  | succ n ih => show 1 ≤ s_p5 n * 5; omega
theorem s_p5_s {k : Int} (h0 : 0 ≤ k) : s_p5 (k + 1).toNat = s_p5 k.toNat * 5 := by
  rw [show (k + 1).toNat = k.toNat + 1 by omega]
  rfl
theorem s_p5_b {k : Int} (h0 : 0 ≤ k) (h1 : k ≤ 6) : 1 ≤ s_p5 k.toNat ∧ s_p5 k.toNat ≤ 15625 := by
  have h : ∀ n : Nat, n < 7 → 1 ≤ s_p5 n ∧ s_p5 n ≤ 15625 := by decide
  exact h _ (by omega)
theorem s_dg_b {R way r : Int} : 0 ≤ s_dg R way r ∧ s_dg R way r < 5 := ⟨Int.emod_nonneg _ (by decide), Int.emod_lt_of_pos _ (by decide)⟩
theorem s_hx_b {φ : Int → Int} (ok : s_ok φ) {a t b h : Int} (ha0 : 0 ≤ a) (ha : a < 6) (ht0 : 0 ≤ t) (ht : t ≤ 4) (hb0 : 0 ≤ b) (hb : b < 6) (h0 : 0 ≤ h) (h1 : h < 10) : 0 ≤ s_hx φ a t b h ∧ s_hx φ a t b h ≤ 80 := by
  have h2 := s_sh_b ok ha0 ha ht0 ht hb0 hb h0 h1
  unfold s_hx
  split <;> omega
theorem s_mx_b {φ : Int → Int} (ok : s_ok φ) {tl : Int → Int} (htl : ∀ r, 0 ≤ tl r ∧ tl r < 5) {r h : Int} (hb0 : 0 ≤ r) (hb : r < 6) (h0 : 0 ≤ h) (h1 : h < 10) (n : Nat) (hn : n ≤ 6) : 0 ≤ s_mx φ tl r h n ∧ s_mx φ tl r h n ≤ 80 := by
  induction n with
  | zero => exact ⟨by simp [s_mx], by simp [s_mx]⟩
  | succ n ih =>
    have h2 := ih (by omega)
    have h4 := htl n
    have h3 := s_ti_b (φ := φ) (r := n) (h := h) h4.1
    have h5 := s_hx_b ok (a := n) (t := s_ti φ n (tl n) h) (b := r) (h := h) (by omega) (by omega) (by omega) (by omega) hb0 hb h0 h1
    show 0 ≤ max _ _ ∧ max _ _ ≤ 80
    omega
theorem s_g1_b {φ : Int → Int} (ok : s_ok φ) {tl : Int → Int} (htl : ∀ r, 0 ≤ tl r ∧ tl r < 5) {r h : Int} (hb0 : 0 ≤ r) (hb : r < 6) (h0 : 0 ≤ h) (h1 : h < 10) : 0 ≤ s_g1 φ tl h r ∧ s_g1 φ tl h r ≤ 420 := by
  have hr := s_rows_b ok
  have h2 := s_mx_b ok htl hb0 hb h0 h1 (φ 0).toNat (by omega)
  have h3 := (s_pt_b ok hb0 hb).2.1
  have h4 := htl r
  have h5 := s_ti_b (φ := φ) (r := r) (h := h) h4.1
  have h6 := q_mulb h3.1 h3.2 h5.1 (show s_ti φ r (tl r) h ≤ 4 by omega)
  have h7 := s_sun_b h0 h1
  have h8 := q_mulb (a := max 0 (s_pt φ r 1 * s_ti φ r (tl r) h - s_mx φ tl r h (φ 0).toNat)) (b := s_sun h) (A := 80) (B := 5) (by omega) (by omega) (by omega) (by omega)
  unfold s_g1
  omega
theorem s_tot_b {φ : Int → Int} (ok : s_ok φ) {tl : Int → Int} (htl : ∀ r, 0 ≤ tl r ∧ tl r < 5) : 0 ≤ s_tot φ tl ∧ s_tot φ tl ≤ 25200 := by
  have hr := s_rows_b ok
  have h := q_sum_b (f := fun h => q_sum (s_g1 φ tl h) (φ 0).toNat) (A := 2520) (n := 10) (fun k h0 h1 => by
    have h3 := q_sum_b (f := s_g1 φ tl k) (A := 420) (n := (φ 0).toNat) (fun r r0 r1 => s_g1_b ok htl r0 (by omega) h0 (by omega))
    show 0 ≤ q_sum (s_g1 φ tl k) (φ 0).toNat ∧ q_sum (s_g1 φ tl k) (φ 0).toNat ≤ 2520
    omega)
  exact h
theorem s_FH_o {φ : Int → Int} {S : q_S} {a : Nat} {z v N : Int} (h1 : a ≠ 156) (h2 : a ≠ 157) (h : s_FH φ S N) : s_FH φ (q_up S a z v) N := fun a' t' k' a0' a1' t0' t1' k0' k1' hN => by
  rw [q_up_ne (Ne.symm h1), q_up_ne (Ne.symm h2)]
  exact h a' t' k' a0' a1' t0' t1' k0' k1' hN
theorem s_bwN_b {φ : Int → Int} (ok : s_ok φ) (n : Nat) : (0 ≤ (s_bwN φ n).1 ∧ (s_bwN φ n).1 ≤ n) ∧ (-1 ≤ (s_bwN φ n).2 ∧ (s_bwN φ n).2 ≤ 25200) := by
  induction n with
  | zero => simp [s_bwN]
  | succ n ih =>
    have h2 := s_tot_b ok (tl := s_dg (φ 0) n) (fun r => s_dg_b)
    by_cases hm : (s_bwN φ n).2 < s_tot φ (s_dg (φ 0) n)
    · rw [show s_bwN φ (n + 1) = ((n : Int), s_tot φ (s_dg (φ 0) n)) from Prod.ext (q_if_t hm) (q_if_t hm)]
      show (0 ≤ (n : Int) ∧ (n : Int) ≤ ((n + 1 : Nat) : Int)) ∧ (-1 ≤ s_tot φ (s_dg (φ 0) n) ∧ s_tot φ (s_dg (φ 0) n) ≤ 25200)
      omega
    · rw [show s_bwN φ (n + 1) = s_bwN φ n from Prod.ext (q_if_f hm) (q_if_f hm)]
      omega
theorem s_div5 {x k : Int} (h0 : 0 ≤ k) : x / s_p5 k.toNat / 5 = x / s_p5 (k + 1).toNat := by
  rw [s_p5_s h0, Int.ediv_ediv_of_nonneg (by have := s_p5_pos k.toNat; omega)]
theorem s_best_e {φ : Int → Int} {w : Int} (h : w ≠ 9 ∧ ¬ (0 ≤ w ∧ w < φ 0)) : s_best φ w = -2 := if_pos h
theorem s_best_9 {φ : Int → Int} {w : Int} (h : w = 9) : s_best φ w = (s_bwN φ (s_p5 (φ 0).toNat).toNat).2 := by
  unfold s_best
  rw [if_neg (by omega), if_pos h]
theorem s_best_w {φ : Int → Int} {w : Int} (h : w ≠ 9) (h2 : 0 ≤ w ∧ w < φ 0) : s_best φ w = s_dg (φ 0) (s_bwN φ (s_p5 (φ 0).toNat).toNat).1 w := by
  unfold s_best
  rw [if_neg (by omega), if_neg h]
