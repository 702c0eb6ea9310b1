theorem s_cnt_b {P : Int → Prop} (n : Nat) : 0 ≤ q_sum (fun h => q_B (P h)) n ∧ q_sum (fun h => q_B (P h)) n ≤ n := by
  have h := q_sum_b (f := fun h => q_B (P h)) (A := 1) (n := n) (fun k _ _ => by rcases q_B_or (P k) with q | q <;> (show 0 ≤ q_B _ ∧ q_B _ ≤ 1) <;> omega)
  omega
/-- what the counts of blame hold after n hours -/
def s_hb (S : q_S) (φ : Int → Int) (r : Int) (n : Nat) : Prop := ∀ b, 0 ≤ b → b < 6 → S 18 b = q_sum (fun h => q_B (s_bl φ r h = b)) n
theorem s_hb_n {S S2 : q_S} {φ : Int → Int} {r k : Int} (H : s_hb S φ r k.toNat) (h : S2 18 = S 18) (k0 : 0 ≤ k) (hb : s_bl φ r k = -6) : s_hb S2 φ r (k + 1).toNat := fun b b0 b1 => by
  rw [h, q_sum_s k0, H b b0 b1, q_B_f (by omega), Int.add_zero]
theorem s_hb_t {S S2 : q_S} {φ : Int → Int} {r k y : Int} (H : s_hb S φ r k.toNat) (h : S2 18 = S 18) (k0 : 0 ≤ k) (hy : y = S2 18 (s_bl φ r k)) (hb : 0 ≤ s_bl φ r k) (hb2 : s_bl φ r k < 6) : s_hb (q_up S2 18 (s_bl φ r k) (y + 1)) φ r (k + 1).toNat := fun b b0 b1 => by
  rw [q_sum_s k0]
  by_cases e : b = s_bl φ r k
  · rw [e, q_up_eq, hy, h, H _ hb hb2, q_B_t (by rfl)]
  · rw [q_up_nz e, h, H b b0 b1, q_B_f (fun g => e g.symm), Int.add_zero]
theorem s_mb_e {φ : Int → Int} (ok : s_ok φ) {r m k : Int} (r0 : 0 ≤ r) (r1 : r < 6) (hk : k = 6) (H : s_mst φ r m k.toNat) : s_mb φ r = if s_blh φ r m = 0 then -6 else m := by
  have rw0 := s_rows_b ok
  subst hk
  have e := s_mbN_6 ok r0 r1 (6 - (φ 0).toNat)
  rw [show (φ 0).toNat + (6 - (φ 0).toNat) = (6 : Int).toNat by omega] at e
  have e2 : s_mb φ r = (s_mbN φ r (6 : Int).toNat).1 := by rw [e]; rfl
  rw [e2]
  rcases H.2.2 with ⟨g, em, ez⟩ | ⟨g, gp⟩
  · rw [g, em, if_pos ez]
  · rw [g, if_neg (by omega)]
