/-! the class and the reference in one world -/
def s_mg (X A : q_S) : q_S := fun a => if a < 150 then X a else A a
theorem s_mg_ge {X A : q_S} {a : Nat} (h : 150 ≤ a) : s_mg X A a = A a := if_neg (by omega)
theorem s_mg_lt {X A : q_S} {a : Nat} (h : a < 150) : s_mg X A a = X a := if_pos h
theorem s_mg_off {S S1 : q_S} (h : s_offM S S1) : S1 = s_mg S1 S := by
  funext a
  by_cases e : a < 150
  · rw [s_mg_lt e]
  · rw [s_mg_ge (by omega)]; exact h a (by omega)
theorem s_up_mg {X A : q_S} {c : Nat} {z v : Int} (h : 150 ≤ c) : q_up (s_mg X A) c z v = s_mg X (q_up A c z v) := by
  funext a
  by_cases e : a < 150
  · rw [q_up_ne (by omega), s_mg_lt e, s_mg_lt e]
  · rw [s_mg_ge (by omega)]
    funext y
    unfold q_up
    rw [s_mg_ge (by omega)]
theorem s_cp_mg {X A : q_S} {c b : Nat} {z v n : Int} (h : 150 ≤ c) (h2 : 150 ≤ b) : q_cp (s_mg X A) c b z v n = s_mg X (q_cp A c b z v n) := by
  funext a
  by_cases e : a < 150
  · rw [q_cp_ne (by omega), s_mg_lt e, s_mg_lt e]
  · rw [s_mg_ge (by omega)]
    funext y
    unfold q_cp
    rw [s_mg_ge h, s_mg_ge (by omega)]
theorem s_w1_mg {X A : q_S} {φ : Int → Int} : q_w1 (s_mg X A) φ = s_mg X (q_w1 A φ) := by
  funext a
  by_cases e : a < 150
  · rw [q_w1_n (by omega), s_mg_lt e, s_mg_lt e]
  · rw [s_mg_ge (by omega)]
    unfold q_w1
    rw [s_mg_ge (by omega)]
theorem s_rec_mg {X A : q_S} : s_rec (s_mg X A) = s_mg X (s_rec A) := by
  unfold s_rec
  rw [s_mg_ge (show 150 ≤ 150 by omega)]
  split
  · rw [s_cp_mg (by omega) (by omega), s_up_mg (by omega), s_cp_mg (by omega) (by omega), s_up_mg (by omega)]
  · rw [s_cp_mg (by omega) (by omega), s_up_mg (by omega)]
theorem s_aft_mg {X A : q_S} {ψ : Int → Int} {v : Int} : s_aft (s_mg X A) ψ v = s_mg X (s_aft A ψ v) := by
  unfold s_aft
  split
  · rfl
  · rw [s_rec_mg, s_w1_mg]
theorem s_51_mg {X A : q_S} : s_mg X A 151 = A 151 := s_mg_ge (by omega)
theorem s_m_tilt {X A : q_S} (ok : s_ok (A 151)) {r u : Int} : s_tiltS (s_mg X A) r u = s_mg X (s_tiltS A r u) := by rw [← s_a_tilt (by rw [s_51_mg]; exact ok), s_aft_mg, s_51_mg, s_a_tilt ok]
theorem s_m_grant {X A : q_S} (ok : s_ok (A 151)) {a b h u : Int} : s_grantS (s_mg X A) a b h u = s_mg X (s_grantS A a b h u) := by rw [← s_a_grant (by rw [s_51_mg]; exact ok), s_aft_mg, s_51_mg, s_a_grant ok]
theorem s_m_wind {X A : q_S} (ok : s_ok (A 151)) {h u : Int} : s_windS (s_mg X A) h u = s_mg X (s_windS A h u) := by rw [← s_a_wind (by rw [s_51_mg]; exact ok), s_aft_mg, s_51_mg, s_a_wind ok]
theorem s_m_stow {X A : q_S} (ok : s_ok (A 151)) {u : Int} : s_stowS (s_mg X A) u = s_mg X (s_stowS A u) := by rw [← s_a_stow (by rw [s_51_mg]; exact ok), s_aft_mg, s_51_mg, s_a_stow ok]
theorem s_m_row {X A : q_S} (ok : s_ok (A 151)) {p l u : Int} : s_rowS (s_mg X A) p l u = s_mg X (s_rowS A p l u) := by rw [← s_a_row (by rw [s_51_mg]; exact ok), s_aft_mg, s_51_mg, s_a_row ok]
theorem s_m_ask {X A : q_S} (ok : s_ok (A 151)) {a h u p : Int} : s_askS (s_mg X A) a h u p = s_mg X (s_askS A a h u p) := by rw [← s_a_ask (by rw [s_51_mg]; exact ok), s_aft_mg, s_51_mg, s_a_ask ok]
theorem s_m_bid {X A : q_S} (ok : s_ok (A 151)) {b a h u p : Int} : s_bidS (s_mg X A) b a h u p = s_mg X (s_bidS A b a h u p) := by rw [← s_a_bid (by rw [s_51_mg]; exact ok), s_aft_mg, s_51_mg, s_a_bid ok]
theorem s_m_back {X A : q_S} {k n : Int} : s_backS (s_mg X A) k n = s_mg X (s_backS A k n) := by rw [← s_a_back, s_aft_mg, s_51_mg, s_a_back]
theorem s_m_mat {X A : q_S} : q_w1 (s_rec (s_mg X A)) (s_matP (s_mg X A 151)) = s_mg X (q_w1 (s_rec A) (s_matP (A 151))) := by rw [s_rec_mg, s_w1_mg, s_51_mg]
theorem s_m_put {X A : q_S} {N0 : Nat} : s_putS (s_mg X A) N0 = s_mg X (s_putS A N0) := by
  have e : ∀ (p n j : Int), s_app (s_mg X A) p N0 n j = s_mg X (s_app A p N0 n j) := fun p n j => by
    funext a z
    unfold s_app
    by_cases q : a < 150
    · rw [s_mg_lt q, s_mg_lt q, if_neg (by omega)]
    · rw [s_mg_ge (by omega), s_mg_ge (by omega)]
  unfold s_putS
  rw [s_mg_ge (show 150 ≤ 150 by omega)]
  split
  · rw [e, s_up_mg (by omega)]
  · rfl
theorem s_m_undo {X A : q_S} : s_undoS (s_mg X A) = s_mg X (s_undoS A) := by
  unfold s_undoS
  rw [s_mg_ge (show 150 ≤ 150 by omega)]
  split
  · rfl
  · rw [s_up_mg (by omega), s_cp_mg (by omega) (by omega)]
theorem s_m_save {X A : q_S} {k : Int} : s_saveS (s_mg X A) k = s_mg X (s_saveS A k) := by
  unfold s_saveS
  split
  · rfl
  · rw [s_cp_mg (by omega) (by omega), s_up_mg (by omega)]
theorem s_m_rest {X A : q_S} {k : Int} : s_restS (s_mg X A) k = s_mg X (s_restS A k) := by
  unfold s_restS
  rw [s_mg_ge (show 150 ≤ 154 by omega)]
  split
  · rfl
  · split
    · rfl
    · rw [s_rec_mg, s_cp_mg (by omega) (by omega)]
theorem s_m_co {X A : q_S} {P : Int → Int} {N : Int} : s_coS P N (s_mg X A) = s_mg X (s_coS P N A) := by
  unfold s_coS
  rw [s_51_mg]
  split
  · rw [s_rec_mg, s_w1_mg, s_up_mg (by omega)]
  · rfl
theorem s_m_P {X A : q_S} : s_P (s_mg X A) = s_P A := by
  funext z
  unfold s_P
  rw [s_mg_ge (show 150 ≤ 150 by omega), s_mg_ge (show 150 ≤ 155 by omega)]
/-- what holds of the class' cells and of the reference's, holds where they stand side by side -/
theorem s_Jc_mg {X A : q_S} (J : s_Jc X A) : s_Jc (s_mg X A) (s_mg X A) := by
  have nb := J.nb
  have st : ∀ f χ, f + 11 < 150 → s_st X f χ → s_st (s_mg X A) f χ := fun f χ hf H => s_st_o H (fun a x y => s_mg_lt (by omega))
  have e30 : s_mg X A 30 = X 30 := s_mg_lt (by omega)
  have e50 : s_mg X A 150 = A 150 := s_mg_ge (by omega)
  refine ⟨?_, ?_, ?_, ?_, fun i i0 i1 => ?_, fun k k0 k1 => ?_, fun k k0 k1 hk => ?_, ?_, fun z z0 z1 => ?_⟩
  · rw [s_51_mg]; exact st 1 _ (by omega) J.F
  · rw [s_mg_lt (by omega), e50]; exact J.n
  · rw [e50]; exact nb
  · have q := J.hs
    unfold s_hs at q ⊢
    rw [e30]; exact q
  · rw [e50] at i1
    have q := s_hF_i (J.f i0 (show i < 7 by omega)).2
    unfold s_hi
    rw [e30, s_mg_ge (show 150 ≤ 152 by omega)]
    exact st _ _ (by omega) (J.h i i0 i1)
  · rw [s_mg_lt (show 149 < 150 by omega), s_mg_lt (show 122 < 150 by omega), s_mg_ge (show 150 ≤ 154 by omega)]; exact J.s1 k k0 k1
  · rw [s_mg_ge (show 150 ≤ 154 by omega)] at hk
    have q : s_sb k + 11 < 150 := by unfold s_sb; split <;> omega
    unfold s_sl
    rw [s_mg_ge (show 150 ≤ 153 by omega)]
    exact st _ _ q (J.s2 k k0 k1 hk)
  · rw [s_mg_lt (show 25 < 150 by omega), e50]; exact J.p
  · rw [e50] at z1
    rw [s_mg_lt (show 26 < 150 by omega), s_mg_ge (show 150 ≤ 155 by omega)]; exact J.ps z z0 z1
theorem s_Jc_w {Y Z : q_S} (J : s_Jc Y Y) (h : ∀ a : Nat, a < 150 ∨ (151 ≤ a ∧ a ≤ 155) → Z a = Y a) (h2 : Z 150 2 = Y 150 2) (h6 : Z 150 6 = Y 150 6) : s_Jc Z Z := by
  have nb := J.nb
  have st : ∀ f χ, f + 11 < 150 → s_st Y f χ → s_st Z f χ := fun f χ hf H => s_st_o H (fun a x y => h a (by omega))
  have e30 : Z 30 = Y 30 := h 30 (by omega)
  refine ⟨?_, ?_, ?_, ?_, fun i i0 i1 => ?_, fun k k0 k1 => ?_, fun k k0 k1 hk => ?_, ?_, fun z z0 z1 => ?_⟩
  · rw [h 151 (by omega)]; exact st 1 _ (by omega) J.F
  · rw [h 29 (by omega), h2]; exact J.n
  · rw [h2]; exact nb
  · have q := J.hs
    unfold s_hs at q ⊢
    rw [e30]; exact q
  · rw [h2] at i1
    have q := s_hF_i (J.f i0 (show i < 7 by omega)).2
    unfold s_hi
    rw [e30, h 152 (by omega)]
    exact st _ _ (by omega) (J.h i i0 i1)
  · rw [h 149 (by omega), h 122 (by omega), h 154 (by omega)]; exact J.s1 k k0 k1
  · rw [h 154 (by omega)] at hk
    have q : s_sb k + 11 < 150 := by unfold s_sb; split <;> omega
    unfold s_sl
    rw [h 153 (by omega)]
    exact st _ _ q (J.s2 k k0 k1 hk)
  · rw [h 25 (by omega), h6]; exact J.p
  · rw [h6] at z1
    rw [h 26 (by omega), h 155 (by omega)]; exact J.ps z z0 z1
theorem s_Jc_P {Y Z : q_S} (J : s_Jc Y Y) (o : s_offP Y Z) : s_Jc Z Z := s_Jc_w J (fun a ha => o.1 a (by omega)) (o.2 2 (Or.inl (by decide))) (o.2 6 (Or.inl (by decide)))
theorem s_Jc_t {Y Z : q_S} (J : s_Jc Y Y) (o : s_off Y Z (fun a => a = 156 ∨ a = 157 ∨ a = 158)) : s_Jc Z Z := s_Jc_w J (fun a ha => o a (by omega)) (by rw [o 150 (by omega)]) (by rw [o 150 (by omega)])
theorem s_Jc_1 {X S : q_S} (J : s_Jc X S) (o : s_offM S X) : s_Jc X X := by
  have q := s_Jc_mg J
  rw [← s_mg_off o] at q
  exact q
noncomputable def s_m31 (a : Int) : Int := (Int32.ofInt a &&& 31).toInt
theorem s_m31_e {a : Int} : Int32.ofInt a &&& 31 = Int32.ofInt (s_m31 a) := (q_ot _).symm
theorem q_icmp_s {Γ : q_G} {M : q_M} {d bc bs pc tgt : Nat} {L : List (Nat × Value)} {st : List Value} {w : q_W} {Q : Option Value → q_W → Prop} {a : Int} {off : Int} (hd : decode M.2.1 pc = .ok (.if_icmp .eq off, 3)) (ht : (pc : Int) + off = (tgt : Int)) (k : q_Go Γ M d bc bs tgt L st w Q) : q_Go Γ M d bc bs pc L (q_i a :: q_i a :: st) w Q := by
  have e : q_i (s_wr a) = q_i a := by unfold q_i s_wr; rw [q_ot]
  rw [← e]
  exact q_icmp_eq (pc' := pc + 3) hd ht rfl (s_wr_rg a) (s_wr_rg a) (fun _ => k) (fun h => absurd rfl h)
