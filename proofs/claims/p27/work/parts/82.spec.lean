/-! what the law asks of the class, in its words; undo takes the field back -/
theorem w_Jc_w1 {S X : q_S} {ψ : Int → Int} (J : s_Jc S X) (h : ∀ z, 0 ≤ z → z < 489 → ψ z = X 151 z) : s_Jc S (q_w1 X ψ) := by
  have e : ∀ a : Nat, a ≠ 151 → q_w1 X ψ a = X a := fun a g => q_w1_n g
  unfold s_Jc s_hi s_sl at J ⊢
  rw [e 150 (by decide), e 152 (by decide), e 153 (by decide), e 154 (by decide), e 155 (by decide), q_w1_s]
  exact ⟨s_st_cg J.1 h, J.2⟩
theorem w_rec {A : q_S} (nb : 0 ≤ A 150 2 ∧ A 150 2 ≤ 6) : 0 < s_rec A 150 2 ∧ ∀ z, 0 ≤ z → z < 489 → s_hi (s_rec A) (s_rec A 150 2 - 1) z = A 151 z := by
  by_cases g : A 150 2 = 6
  · have q := s_rec_h6 g
    rw [q.1]
    exact ⟨by decide, q.2.2⟩
  · have q := s_rec_hi nb.1 (by omega)
    rw [q.1, show A 150 2 + 1 - 1 = A 150 2 by omega]
    exact ⟨by omega, q.2.2⟩
theorem w_undoV {A : q_S} {ψ : Int → Int} (nb : 0 ≤ A 150 2 ∧ A 150 2 ≤ 6) : 0 ≤ s_undoV (q_w1 (s_rec A) ψ) ∧ q_rg (s_undoV (q_w1 (s_rec A) ψ)) := by
  have e : q_w1 (s_rec A) ψ 150 2 = s_rec A 150 2 := by rw [q_w1_n (by decide)]
  have h := (w_rec nb).1
  have h6 : s_rec A 150 2 ≤ 6 := by
    by_cases g : A 150 2 = 6
    · rw [(s_rec_h6 g).1]; decide
    · rw [(s_rec_hi nb.1 (by omega)).1]; omega
  unfold s_undoV
  rw [e, if_neg (by omega)]
  exact ⟨by omega, by omega, by omega⟩
theorem w_undo {S A : q_S} {ψ : Int → Int} (nb : 0 ≤ A 150 2 ∧ A 150 2 ≤ 6) (J : s_Jc S (s_undoS (q_w1 (s_rec A) ψ))) : ∃ A2, s_Jc S A2 ∧ A2 151 = A 151 := by
  have hn := w_rec nb
  refine ⟨q_w1 _ (A 151), w_Jc_w1 J (fun z z0 z1 => ?_), q_w1_s⟩
  have e : q_w1 (s_rec A) ψ 150 2 = s_rec A 150 2 := by rw [q_w1_n (by decide)]
  have e2 : ∀ y, q_w1 (s_rec A) ψ 152 y = s_rec A 152 y := fun y => by rw [q_w1_n (by decide)]
  unfold s_undoS
  rw [e, if_neg (by omega), q_cp_in (by omega) (by omega), q_up_ne (by decide), e2, ← hn.2 z z0 z1]
  unfold s_hi
  exact congrArg _ (by omega)
theorem w_of {φ : Int → Int} {r : Int} (h4 : φ 0 = 4) (r0 : 0 ≤ r) (r1 : r < 4) : s_ofRow φ r 0 = s_pt φ r 0 ∧ s_ofRow φ r 1 = s_pt φ r 1 ∧ s_ofRow φ r 2 = s_pt φ r 2 ∧ s_ofRow φ r 3 = s_pt φ r 3 + 1000000000 ∧ s_ofRow φ r 4 = s_yo φ r := by
  refine ⟨?_, ?_, ?_, ?_, ?_⟩ <;> (unfold s_ofRow; omega)
theorem w_in {φ : Int → Int} {r h : Int} (h4 : φ 0 = 4) (r0 : 0 ≤ r) (r1 : r < 4) (hb : 0 ≤ h ∧ h < 10) : s_inHour φ r h 0 = s_ti φ r (s_pt φ r 2) h ∧ s_inHour φ r h 1 = s_ti φ r (s_pt φ r 2) h * s_pt φ r 1 ∧ s_inHour φ r h 2 = s_shd φ r h ∧ s_inHour φ r h 3 = s_bl φ r h ∧ s_inHour φ r h 4 = (s_ti φ r (s_pt φ r 2) h * s_pt φ r 1 - s_shd φ r h) * s_sun h + s_pt φ r 1 := by
  have e : s_ti φ r (s_pt φ r 2) h * s_pt φ r 1 = s_he φ r h := Int.mul_comm _ _
  rw [e]
  have e2 : (s_he φ r h - s_shd φ r h) * s_sun h + s_pt φ r 1 = s_y φ r h := rfl
  rw [e2]
  refine ⟨?_, ?_, ?_, ?_, ?_⟩ <;> (unfold s_inHour; omega)
theorem w_ov {φ : Int → Int} {a b h : Int} (h4 : φ 0 = 4) (a0 : 0 ≤ a) (a1 : a < 4) (b0 : 0 ≤ b) (b1 : b < 4) (ab : ¬ b = a) (hb : 0 ≤ h ∧ h < 10) : s_over φ a b h 0 = s_rt φ a b h ∧ s_over φ a b h 1 = s_sh φ a (s_ti φ a (s_pt φ a 2) h) b h ∧ s_over φ a b h 2 = s_sh φ a (s_pt φ a 2) b h := by
  have e : s_sh φ a (s_ti φ a (s_pt φ a 2) h) b h = s_si φ a b h := rfl
  rw [e]
  refine ⟨?_, ?_, ?_⟩ <;> (unfold s_over; omega)
theorem w_ofA {φ : Int → Int} {k : Int} (k0 : 0 ≤ k) (k1 : k < φ 3) : s_offer φ 0 k 0 = s_as φ k 0 ∧ s_offer φ 0 k 1 = s_as φ k 1 ∧ s_offer φ 0 k 2 = s_as φ k 2 ∧ s_offer φ 0 k 3 = s_as φ k 3 ∧ s_offer φ 0 k 4 = -6 := by
  refine ⟨?_, ?_, ?_, ?_, ?_⟩ <;> (unfold s_offer; rw [show (3 : Int) + 0 = 3 from rfl]; omega)
theorem w_ofB {φ : Int → Int} {k : Int} (k0 : 0 ≤ k) (k1 : k < φ 4) : s_offer φ 1 k 0 = s_bd φ k 0 ∧ s_offer φ 1 k 1 = s_bd φ k 1 ∧ s_offer φ 1 k 2 = s_bd φ k 2 ∧ s_offer φ 1 k 3 = s_bd φ k 3 ∧ s_offer φ 1 k 4 = s_bd φ k 4 := by
  refine ⟨?_, ?_, ?_, ?_, ?_⟩ <;> (unfold s_offer; rw [show (3 : Int) + 1 = 4 from rfl]; omega)
theorem w_ofN {φ : Int → Int} : s_offer φ 0 (φ 3) 0 = -1 := by
  unfold s_offer
  rw [show (3 : Int) + 0 = 3 from rfl]
  omega
theorem w_cn {φ : Int → Int} (pl hn : Int) : s_count φ pl hn 0 = φ 0 ∧ s_count φ pl hn 1 = φ 3 ∧ s_count φ pl hn 2 = φ 4 ∧ s_count φ pl hn 3 = s_all φ ∧ s_count φ pl hn 4 = φ 2 ∧ s_count φ pl hn 5 = φ 1 := by
  refine ⟨?_, ?_, ?_, ?_, ?_, ?_⟩ <;> (unfold s_count; omega)
theorem w_all4 {φ : Int → Int} (h4 : φ 0 = 4) : s_all φ = q_sum (s_yo φ) 4 := by
  unfold s_all
  rw [h4]
  rfl
/-! the best tilt of a row -/
theorem w_btN {φ : Int → Int} (ok : s_ok φ) {r : Int} (r0 : 0 ≤ r) (r1 : r < 4) (n : Nat) (hn : n ≤ 5) : (n = 0 → (s_btN φ r n).2 = -1) ∧ (0 < n → 0 ≤ (s_btN φ r n).1 ∧ (s_btN φ r n).1 < n) ∧
    ∀ t : Int, 0 ≤ t → t < n → s_all (s_set φ (15 + 4 * r + 2) t) ≤ (s_btN φ r n).2 ∧ (t < (s_btN φ r n).1 → s_all (s_set φ (15 + 4 * r + 2) t) < (s_btN φ r n).2) ∧ (t = (s_btN φ r n).1 → s_all (s_set φ (15 + 4 * r + 2) t) = (s_btN φ r n).2) := by
  induction n with
  | zero => exact ⟨fun _ => rfl, fun h => by omega, fun t t0 t1 => by omega⟩
  | succ n ih =>
    have ih := ih (by omega)
    have f0 := (s_all_b (s_ok_tilt ok r0 (show r < 6 by omega) (show (0 : Int) ≤ n by omega) (show (n : Int) ≤ 4 by omega))).1
    by_cases hm : (s_btN φ r n).2 < s_all (s_set φ (15 + 4 * r + 2) n)
    · rw [show s_btN φ r (n + 1) = ((n : Int), s_all (s_set φ (15 + 4 * r + 2) n)) from Prod.ext (q_if_t hm) (q_if_t hm)]
      refine ⟨fun h => by omega, fun _ => ⟨by show 0 ≤ (n : Int); omega, by show (n : Int) < ((n + 1 : Nat) : Int); omega⟩, fun t t0 t1 => ?_⟩
      show s_all (s_set φ (15 + 4 * r + 2) t) ≤ s_all (s_set φ (15 + 4 * r + 2) n) ∧ (t < (n : Int) → _ < s_all (s_set φ (15 + 4 * r + 2) n)) ∧ (t = (n : Int) → _ = s_all (s_set φ (15 + 4 * r + 2) n))
      rcases (show t < (n : Int) ∨ t = (n : Int) by omega) with g | g
      · have q := ih.2.2 t t0 g
        exact ⟨by omega, fun _ => by omega, fun e => by omega⟩
      · subst g
        exact ⟨Int.le_refl _, fun e => by omega, fun _ => rfl⟩
    · rw [show s_btN φ r (n + 1) = s_btN φ r n from Prod.ext (q_if_f hm) (q_if_f hm)]
      have n1 : 0 < n := by
        rcases Nat.eq_zero_or_pos n with e | e
        · have := ih.1 e; omega
        · exact e
      have q1 := ih.2.1 n1
      refine ⟨fun h => by omega, fun _ => ⟨q1.1, by omega⟩, fun t t0 t1 => ?_⟩
      rcases (show t < (n : Int) ∨ t = (n : Int) by omega) with g | g
      · exact ih.2.2 t t0 g
      · subst g
        exact ⟨by omega, fun e => by omega, fun e => by omega⟩
theorem w_best1 {φ : Int → Int} (ok : s_ok φ) (h4 : φ 0 = 4) {r : Int} (r0 : 0 ≤ r) (r1 : r < 4) : (0 ≤ s_best1 φ r 0 ∧ s_best1 φ r 0 < 5) ∧
    ∀ t : Int, 0 ≤ t → t < 5 → s_all (s_set φ (15 + 4 * r + 2) t) ≤ s_best1 φ r 1 ∧ (t < s_best1 φ r 0 → s_all (s_set φ (15 + 4 * r + 2) t) < s_best1 φ r 1) ∧ (t = s_best1 φ r 0 → s_all (s_set φ (15 + 4 * r + 2) t) = s_best1 φ r 1) := by
  have e0 : s_best1 φ r 0 = (s_btN φ r 5).1 := by unfold s_best1; rw [if_neg (by omega), if_neg (by omega), if_pos rfl]
  have e1 : s_best1 φ r 1 = (s_btN φ r 5).2 := by unfold s_best1; rw [if_neg (by omega), if_neg (by omega), if_neg (by decide)]
  have h := w_btN ok r0 r1 5 (Nat.le_refl _)
  rw [e0, e1]
  exact ⟨h.2.1 (by decide), h.2.2⟩
/-! the best tilts together are no worse -/
theorem w_ts_sh {φ : Int → Int} {r v a t b h : Int} : s_sh (s_set φ (15 + 4 * r + 2) v) a t b h = s_sh φ a t b h := by
  have e1 : s_pt (s_set φ (15 + 4 * r + 2) v) a 0 = s_pt φ a 0 := s_set_ne (by omega)
  have e2 : s_pt (s_set φ (15 + 4 * r + 2) v) b 0 = s_pt φ b 0 := s_set_ne (by omega)
  have e3 : s_pt (s_set φ (15 + 4 * r + 2) v) a 1 = s_pt φ a 1 := s_set_ne (by omega)
  unfold s_sh s_loss s_dist
  rw [e1, e2, e3]
theorem w_ts_ti {φ : Int → Int} {r v a own h : Int} (r0 : 0 ≤ r) (r1 : r < 4) (a0 : 0 ≤ a) (h0 : 0 ≤ h) (h1 : h < 10) : s_ti (s_set φ (15 + 4 * r + 2) v) a own h = s_ti φ a own h := by
  have z0 : s_set φ (15 + 4 * r + 2) v 0 = φ 0 := s_set_ne (by omega)
  have z1 : s_set φ (15 + 4 * r + 2) v 1 = φ 1 := s_set_ne (by omega)
  have z5 : s_set φ (15 + 4 * r + 2) v (5 + h) = φ (5 + h) := s_set_ne (by omega)
  have er : ∀ b, 0 ≤ b → s_rt (s_set φ (15 + 4 * r + 2) v) a b h = s_rt φ a b h := fun b b0 => s_set_ne (by omega)
  have e : (fun t => s_keeps (s_set φ (15 + 4 * r + 2) v) a t h) = fun t => s_keeps φ a t h := by
    funext t
    refine propext ⟨fun q b b0 b1 => ?_, fun q b b0 b1 => ?_⟩
    · have k := q b b0 (by rw [z0]; exact b1)
      rw [w_ts_sh, er b b0] at k
      exact k
    · rw [w_ts_sh, er b b0]
      exact q b b0 (by rw [z0] at b1; exact b1)
  unfold s_ti s_flat
  rw [e, z1, z5]
theorem w_ts_mx {φ : Int → Int} {tl : Int → Int} {r v a h : Int} (r0 : 0 ≤ r) (r1 : r < 4) (h0 : 0 ≤ h) (h1 : h < 10) (n : Nat) : s_mx (s_set φ (15 + 4 * r + 2) v) tl a h n = s_mx φ tl a h n := by
  induction n with
  | zero => rfl
  | succ n ih =>
    show max (s_mx (s_set φ (15 + 4 * r + 2) v) tl a h n) (s_hx (s_set φ (15 + 4 * r + 2) v) n (s_ti (s_set φ (15 + 4 * r + 2) v) n (tl n) h) a h) = max (s_mx φ tl a h n) (s_hx φ n (s_ti φ n (tl n) h) a h)
    unfold s_hx
    rw [ih, w_ts_ti r0 r1 (by omega) h0 h1, w_ts_sh]
theorem w_ts_tot {φ : Int → Int} {tl : Int → Int} {r v : Int} (r0 : 0 ≤ r) (r1 : r < 4) : s_tot (s_set φ (15 + 4 * r + 2) v) tl = s_tot φ tl := by
  have z0 : s_set φ (15 + 4 * r + 2) v 0 = φ 0 := s_set_ne (by omega)
  unfold s_tot
  rw [z0]
  refine q_sum_c (fun h h0 h1 => q_sum_c (fun a a0 a1 => ?_))
  have e : s_pt (s_set φ (15 + 4 * r + 2) v) a 1 = s_pt φ a 1 := s_set_ne (by omega)
  unfold s_g1
  rw [e, z0, w_ts_ti r0 r1 a0 h0 (by omega), w_ts_mx r0 r1 h0 (by omega)]
theorem w_mx_cg {φ : Int → Int} {tl tl2 : Int → Int} {a h : Int} (n : Nat) (hn : (n : Int) ≤ φ 0) (e : ∀ j, 0 ≤ j → j < φ 0 → tl j = tl2 j) : s_mx φ tl a h n = s_mx φ tl2 a h n := by
  induction n with
  | zero => rfl
  | succ n ih =>
    show max (s_mx φ tl a h n) (s_hx φ n (s_ti φ n (tl n) h) a h) = max (s_mx φ tl2 a h n) (s_hx φ n (s_ti φ n (tl2 n) h) a h)
    rw [ih (by omega), e n (by omega) (by omega)]
theorem w_tot_cg {φ : Int → Int} (ok : s_ok φ) {tl tl2 : Int → Int} (e : ∀ j, 0 ≤ j → j < φ 0 → tl j = tl2 j) : s_tot φ tl = s_tot φ tl2 := by
  have c0 := ok.1
  unfold s_tot
  refine q_sum_c (fun h h0 h1 => q_sum_c (fun a a0 a1 => ?_))
  unfold s_g1
  rw [w_mx_cg _ (by omega) e, e a a0 (by omega)]
theorem w_bwN {φ : Int → Int} (n k : Nat) (h : k < n) : s_tot φ (s_dg (φ 0) k) ≤ (s_bwN φ n).2 := by
  induction n with
  | zero => omega
  | succ n ih =>
    by_cases hm : (s_bwN φ n).2 < s_tot φ (s_dg (φ 0) n)
    · rw [show (s_bwN φ (n + 1)).2 = s_tot φ (s_dg (φ 0) n) from q_if_t hm]
      rcases (show k < n ∨ k = n by omega) with g | g
      · have := ih g; omega
      · subst g; exact Int.le_refl _
    · rw [show (s_bwN φ (n + 1)).2 = (s_bwN φ n).2 from q_if_f hm]
      rcases (show k < n ∨ k = n by omega) with g | g
      · exact ih g
      · subst g; omega
theorem w_best_ge {φ : Int → Int} (ok : s_ok φ) (h4 : φ 0 = 4) {tl : Int → Int} (ht : ∀ j, 0 ≤ j → j < 4 → 0 ≤ tl j ∧ tl j ≤ 4) : s_tot φ tl ≤ s_best φ 9 := by
  have t0 := ht 0 (by decide) (by decide)
  have t1 := ht 1 (by decide) (by decide)
  have t2 := ht 2 (by decide) (by decide)
  have t3 := ht 3 (by decide) (by decide)
  obtain ⟨k, hk⟩ : ∃ k : Nat, (k : Int) = 125 * tl 0 + 25 * tl 1 + 5 * tl 2 + tl 3 := ⟨(125 * tl 0 + 25 * tl 1 + 5 * tl 2 + tl 3).toNat, by omega⟩
  have e : s_tot φ tl = s_tot φ (s_dg (φ 0) k) := w_tot_cg ok (fun j j0 j1 => by
    rw [h4] at j1 ⊢
    unfold s_dg
    rcases (show j = 0 ∨ j = 1 ∨ j = 2 ∨ j = 3 by omega) with rfl | rfl | rfl | rfl
    · rw [show s_p5 (4 - 1 - 0 : Int).toNat = 125 from rfl]; omega
    · rw [show s_p5 (4 - 1 - 1 : Int).toNat = 25 from rfl]; omega
    · rw [show s_p5 (4 - 1 - 2 : Int).toNat = 5 from rfl]; omega
    · rw [show s_p5 (4 - 1 - 3 : Int).toNat = 1 from rfl]; omega)
  rw [e, s_best_9 rfl]
  refine w_bwN _ k ?_
  rw [h4, show s_p5 (4 : Int).toNat = 625 from rfl]
  omega
theorem w_mx_bN {φ : Int → Int} {r h : Int} (n : Nat) (hb : ∀ k : Nat, k < n → 0 ≤ s_up φ r h k) : (s_bN φ r h n).2 = s_mx φ (fun j => s_pt φ j 2) r h n := by
  induction n with
  | zero => rfl
  | succ n ih =>
    have ih := ih (fun k hk => hb k (by omega))
    have u0 := hb n (by omega)
    have e : s_hx φ n (s_ti φ n (s_pt φ n 2) h) r h = s_up φ r h n := rfl
    show q_if (s_more φ r n (s_up φ r h n) (s_bN φ r h n).1 (s_bN φ r h n).2) (s_up φ r h n) (s_bN φ r h n).2 = max (s_mx φ (fun j => s_pt φ j 2) r h n) (s_hx φ n (s_ti φ n (s_pt φ n 2) h) r h)
    rw [e, ← ih]
    by_cases m : s_more φ r n (s_up φ r h n) (s_bN φ r h n).1 (s_bN φ r h n).2
    · rw [q_if_t m]
      unfold s_more at m
      omega
    · rw [q_if_f m]
      unfold s_more at m
      omega
theorem w_y_g1 {φ : Int → Int} (ok : s_ok φ) {r h : Int} (r0 : 0 ≤ r) (r1 : r < 6) (h0 : 0 ≤ h) (h1 : h < 10) : s_y φ r h = s_g1 φ (fun j => s_pt φ j 2) h r := by
  have c0 := ok.1
  have hb := s_bN_b ok r0 r1 h0 h1 (φ 0).toNat (by omega)
  have e := w_mx_bN (φ := φ) (r := r) (h := h) (φ 0).toNat (fun k hk => (s_up_b ok (a := k) (by omega) (by omega) r0 r1 h0 h1).1)
  have eh : s_pt φ r 1 * s_ti φ r (s_pt φ r 2) h = s_he φ r h := rfl
  have es : s_shd φ r h = min (s_bN φ r h (φ 0).toNat).2 (s_he φ r h) := by
    unfold s_shd
    rcases hb.2 with q | q
    · rw [if_pos (show s_bl φ r h = -6 from q.1), q.2]
    · have b0 : 0 ≤ s_bl φ r h := q.1
      have p : 0 < (s_bN φ r h (φ 0).toNat).2 := q.2.2.1
      have u : (s_bN φ r h (φ 0).toNat).2 = s_up φ r h (s_bl φ r h) := q.2.2.2
      have n : s_bl φ r h ≠ r := fun g => by
        have : s_up φ r h (s_bl φ r h) = 0 := if_pos g
        omega
      rw [if_neg (by omega), u]
      unfold s_up
      rw [if_neg n]
  unfold s_y s_g1
  show _ = s_pt φ r 1 + max 0 (s_pt φ r 1 * s_ti φ r (s_pt φ r 2) h - s_mx φ (fun j => s_pt φ j 2) r h (φ 0).toNat) * s_sun h
  rw [eh, es, ← e, show s_he φ r h - min (s_bN φ r h (φ 0).toNat).2 (s_he φ r h) = max 0 (s_he φ r h - (s_bN φ r h (φ 0).toNat).2) by omega]
  omega
theorem w_all_tot {φ : Int → Int} (ok : s_ok φ) : s_all φ = s_tot φ (fun j => s_pt φ j 2) := by
  have c0 := ok.1
  have e : s_all φ = q_sum (fun h => q_sum (fun r => s_y φ r h) (φ 0).toNat) 10 := (q_sum_swap 10 (φ 0).toNat).symm
  rw [e]
  unfold s_tot
  exact q_sum_c (fun h h0 h1 => q_sum_c (fun a a0 a1 => w_y_g1 ok a0 (by omega) h0 (by omega)))
theorem w_bests {φ : Int → Int} (ok : s_ok φ) (h4 : φ 0 = 4) {r : Int} (r0 : 0 ≤ r) (r1 : r < 4) : s_best1 φ r 1 ≤ s_best φ 9 := by
  have h := w_best1 ok h4 r0 r1
  have q := (h.2 (s_best1 φ r 0) h.1.1 h.1.2).2.2 rfl
  have ok2 := s_ok_tilt ok r0 (show r < 6 by omega) h.1.1 (show s_best1 φ r 0 ≤ 4 by omega)
  rw [← q, w_all_tot ok2, w_ts_tot r0 r1]
  refine w_best_ge ok h4 (fun j j0 j1 => ?_)
  exact (s_pt_b ok2 j0 (by omega)).2.2
theorem w_rg_best {φ : Int → Int} (ok : s_ok φ) (h4 : φ 0 = 4) {r : Int} (r0 : 0 ≤ r) (r1 : r < 4) : q_rg (s_best1 φ r 1) ∧ q_rg (s_best φ 9) := by
  have h := w_best1 ok h4 r0 r1
  have q := (h.2 (s_best1 φ r 0) h.1.1 h.1.2).2.2 rfl
  have ok2 := s_ok_tilt ok r0 (show r < 6 by omega) h.1.1 (show s_best1 φ r 0 ≤ 4 by omega)
  have b := s_all_b ok2
  have c := w_bests ok h4 r0 r1
  have b2 := (s_bwN_b ok (s_p5 (φ 0).toNat).toNat).2
  rw [← s_best_9 (φ := φ) (w := 9) rfl] at b2
  exact ⟨⟨by omega, by omega⟩, by omega, by omega⟩
/-! rights by hand -/
theorem w_gr {A : q_S} (ok : s_ok (A 151)) {a b h u : Int} (e : s_wGrant (A 151) a b h u = 0) : s_grantV (A 151) a b h u = s_rt (A 151) a b h ∧ s_grantS A a b h u = q_w1 (s_rec A) (s_set (A 151) (39 + 10 * (6 * a + b) + h) u) := by
  have g : ¬ s_wGrant (A 151) a b h u < 0 := by omega
  refine ⟨if_neg g, ?_⟩
  unfold s_grantS
  rw [if_neg g, s_up_rec]
theorem w_ti {A : q_S} (ok : s_ok (A 151)) {r u : Int} (e : s_wTilt (A 151) r u = 0) : s_tiltV (A 151) r u = s_pt (A 151) r 2 ∧ s_tiltS A r u = q_w1 (s_rec A) (s_set (A 151) (15 + 4 * r + 2) u) := by
  have g : ¬ s_wTilt (A 151) r u < 0 := by omega
  refine ⟨if_neg g, ?_⟩
  unfold s_tiltS
  rw [if_neg g, s_up_rec]
theorem w_wo3 {φ : Int → Int} {a b h u : Int} (e : s_wGrant φ a b h u = 0) : s_worth φ a b h u 0 = 1000000 + (s_yo (s_set φ (39 + 10 * (6 * a + b) + h) u) a - s_yo φ a) ∧ s_worth φ a b h u 1 = 1000000 + (s_yo φ b - s_yo (s_set φ (39 + 10 * (6 * a + b) + h) u) b) ∧ s_worth φ a b h u 2 = 1000000 + (s_all (s_set φ (39 + 10 * (6 * a + b) + h) u) - s_all φ) := by
  have g : ¬ s_wGrant φ a b h u < 0 := by omega
  unfold s_worth
  refine ⟨?_, ?_, ?_⟩
  · rw [if_neg g, if_neg (by decide), if_neg (by decide)]; rfl
  · rw [if_neg g, if_neg (by decide), if_pos rfl]; rfl
  · rw [if_neg g, if_neg (by decide), if_neg (by decide)]; rfl
