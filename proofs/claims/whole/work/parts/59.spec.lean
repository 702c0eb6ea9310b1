/-! a text carried out -/
theorem s_pz_do {φ : Int → Int} (ok : s_ok φ) (p : s_pz φ) {l a b c e f : Int} (h : l = 119 → (0 ≤ a ∧ a ≤ 9) ∧ (0 ≤ b ∧ b ≤ 9)) : s_pz (s_doP φ l a b c e f) := by
  have c0 := ok.1
  unfold s_doP
  split
  · split
    · rename_i q
      have q := s_wTilt_0 q
      exact s_pz_set ok p (by omega)
    · exact p
  · split
    · exact s_pz_set ok p (by omega)
    · split
      · split
        · exact s_pz_ask ok p (by assumption)
        · exact p
      · split
        · split
          · exact s_pz_bid ok p (by assumption)
          · exact p
        · exact (s_pz_mat ok p).1
theorem s_do_t {φ : Int → Int} (ok : s_ok φ) (p : s_pz φ) {l a b c e f : Int} (h : l = 116) : (s_tiltV φ a b < 0 → s_doV φ l a b c e f = 0) ∧ (0 ≤ s_tiltV φ a b → s_doV φ l a b c e f = 1) ∧ s_doP φ l a b c e f = s_tiltP φ a b := by
  have w := s_wTilt_b φ a b
  have c0 := ok.1
  unfold s_doV s_doP s_tiltV s_tiltP
  rw [if_pos h, if_pos h]
  by_cases g : s_wTilt φ a b < 0
  · rw [if_pos g, if_pos g, if_neg (by omega), if_neg (by omega)]; exact ⟨fun _ => rfl, fun q => by omega, rfl⟩
  · have w2 := s_wTilt_0 (show s_wTilt φ a b = 0 by omega)
    have q := (s_pt_b ok (r := a) (by omega) (by omega)).2.2
    rw [if_neg g, if_neg g, if_pos (by omega), if_pos (by omega)]; exact ⟨fun q => by omega, fun _ => rfl, rfl⟩
theorem s_do_w {φ : Int → Int} (ok : s_ok φ) {l a b c e f : Int} (h : l = 119) (ha : 0 ≤ a ∧ a ≤ 9) (hb : 0 ≤ b ∧ b ≤ 9) : 0 ≤ s_windV φ a b ∧ s_doV φ l a b c e f = 1 ∧ s_doP φ l a b c e f = s_windP φ a b := by
  have w : s_wWind a b = 0 := by unfold s_wWind; omega
  have q := ok.2.2.2.2.1 a ha.1 (by omega)
  unfold s_doV s_doP s_windV s_windP
  rw [if_neg (by omega), if_pos h, if_neg (by omega), if_pos h, if_neg (by omega), if_neg (by omega)]
  exact ⟨q.1, rfl, rfl⟩
theorem s_do_a {φ : Int → Int} (ok : s_ok φ) {l a b c e f : Int} (h : l = 97) : (s_askV φ a c e f < 0 → s_doV φ l a b c e f = 0) ∧ (0 ≤ s_askV φ a c e f → s_doV φ l a b c e f = 1) ∧ s_doP φ l a b c e f = s_askQ φ a c e f := by
  have w := s_wAsk_b φ a c e f
  have c3 := ok.2.2.1
  have e1 : s_doV φ l a b c e f = if s_wAsk φ a c e f = 0 then 1 else 0 := by unfold s_doV; rw [if_neg (by omega), if_neg (by omega), if_pos h]
  have e2 : s_doP φ l a b c e f = if s_wAsk φ a c e f = 0 then s_askP φ a c e f else φ := by unfold s_doP; rw [if_neg (by omega), if_neg (by omega), if_pos h]
  rw [e1, e2]
  unfold s_askV s_askQ
  by_cases g : s_wAsk φ a c e f < 0
  · rw [if_pos g, if_pos g, if_neg (by omega), if_neg (by omega)]; exact ⟨fun _ => rfl, fun q => by omega, rfl⟩
  · rw [if_neg g, if_neg g, if_pos (by omega), if_pos (by omega)]; exact ⟨fun q => by omega, fun _ => rfl, rfl⟩
theorem s_do_b {φ : Int → Int} (ok : s_ok φ) {l a b c e f : Int} (h : l = 98) : (s_bidV φ a b c e f < 0 → s_doV φ l a b c e f = 0) ∧ (0 ≤ s_bidV φ a b c e f → s_doV φ l a b c e f = 1) ∧ s_doP φ l a b c e f = s_bidQ φ a b c e f := by
  have w := s_wBid_b φ a b c e f
  have c3 := ok.2.2.2.1
  have e1 : s_doV φ l a b c e f = if s_wBid φ a b c e f = 0 then 1 else 0 := by unfold s_doV; rw [if_neg (by omega), if_neg (by omega), if_neg (by omega), if_pos h]
  have e2 : s_doP φ l a b c e f = if s_wBid φ a b c e f = 0 then s_bidP φ a b c e f else φ := by unfold s_doP; rw [if_neg (by omega), if_neg (by omega), if_neg (by omega), if_pos h]
  rw [e1, e2]
  unfold s_bidV s_bidQ
  by_cases g : s_wBid φ a b c e f < 0
  · rw [if_pos g, if_pos g, if_neg (by omega), if_neg (by omega)]; exact ⟨fun _ => rfl, fun q => by omega, rfl⟩
  · rw [if_neg g, if_neg g, if_pos (by omega), if_pos (by omega)]; exact ⟨fun q => by omega, fun _ => rfl, rfl⟩
theorem s_do_m {φ : Int → Int} (ok : s_ok φ) (p : s_pz φ) {l a b c e f : Int} (h : l = 109) : 0 ≤ s_matV φ ∧ s_doV φ l a b c e f = 1 ∧ s_doP φ l a b c e f = s_matP φ := by
  unfold s_doV s_doP
  rw [if_neg (by omega), if_neg (by omega), if_neg (by omega), if_neg (by omega), if_neg (by omega), if_neg (by omega), if_neg (by omega), if_neg (by omega)]
  exact ⟨(s_pz_mat ok p).2, rfl, rfl⟩
/-- an order read well: its letter, its digits -/
theorem s_odOk_l {P : Int → Int} {z : Int} (h : s_odOk P z) : (P z = 116 ∨ P z = 119 ∨ P z = 97 ∨ P z = 98 ∨ P z = 109) ∧ (P z = 119 → (0 ≤ s_o1 P z ∧ s_o1 P z ≤ 9) ∧ (0 ≤ s_o2 P z ∧ s_o2 P z ≤ 9)) := by
  have h2 := h
  unfold s_odOk s_eqOk at h2
  refine ⟨by rcases h2 with q | q | q | q | q <;> omega, fun g => ?_⟩
  unfold s_o1 s_o2
  omega
def s_gz (P : Int → Int) (N z : Int) : Prop := ∃ m : Nat, s_ffL P N m z = -6 ∧ 81 ≤ z + m
theorem s_gz_ok {P : Int → Int} {N z : Int} (h : s_gz P N z) (hz : z ≤ 80) (h0 : 0 ≤ s_odAt P z) : s_odOk P z := by
  obtain ⟨m, h1, h2⟩ := h
  by_cases g : s_odOk P z
  · exact g
  · have := s_ffL_1 h1 (by omega) g; omega
theorem s_gz_59 {P : Int → Int} {N z : Int} (h : s_gz P N z) (hz : z ≤ 80) (hk : s_odOk P z) (hN : ∀ y, N ≤ y → P y = -1) (hA : z < s_odAt P z) (h59 : P (s_odAt P z) = 59) : s_gz P N (s_odAt P z + 1) := by
  obtain ⟨m, h1, h2⟩ := h
  exact ⟨m - 1, s_ffL_4 h1 (by omega) hk (fun e => by have := hN (s_odAt P z) (by omega); omega) h59, by omega⟩
theorem s_gz_N {P : Int → Int} {N z : Int} (h : s_gz P N z) (hz : z ≤ 80) (hk : s_odOk P z) (h0 : 0 ≤ s_odAt P z) (h59 : P (s_odAt P z) ≠ 59) : s_odAt P z = N := by
  obtain ⟨m, h1, h2⟩ := h
  by_cases e : s_odAt P z = N
  · exact e
  · have := s_ffL_3 h1 (by omega) hk e h59; omega
theorem s_coL_b {P : Int → Int} {N : Int} (n : Nat) : ∀ (φ : Int → Int) (z k : Int), k ≤ (s_coL P N n φ z k).2 ∧ (s_coL P N n φ z k).2 ≤ k + n := by
  induction n with
  | zero => exact fun φ z k => ⟨Int.le_refl _, by show k ≤ _; omega⟩
  | succ n ih =>
    intro φ z k
    show k ≤ (if z < N then (if s_do P φ z = 1 then s_coL P N n (s_dp P φ z) (s_nz P z) (k + 1) else (s_dp P φ z, k)) else (φ, k)).2 ∧ (if z < N then (if s_do P φ z = 1 then s_coL P N n (s_dp P φ z) (s_nz P z) (k + 1) else (s_dp P φ z, k)) else (φ, k)).2 ≤ k + ((n + 1 : Nat) : Int)
    split
    · split
      · have := ih (s_dp P φ z) (s_nz P z) (k + 1); omega
      · show k ≤ k ∧ k ≤ _; omega
    · show k ≤ k ∧ k ≤ _; omega
theorem s_co_b {P : Int → Int} {N : Int} {φ : Int → Int} : 0 ≤ (s_co P N φ).2 ∧ (s_co P N φ).2 ≤ 82 := by
  have h := s_coL_b (P := P) (N := N) 82 φ 0 0
  exact ⟨h.1, by have := h.2; show (s_coL P N 82 φ 0 0).2 ≤ 82; omega⟩
theorem s_kpS_25 {S : q_S} {v z : Int} : s_kpS (q_up S 25 1 z) v = q_up (s_kpS S v) 25 1 z := by
  unfold s_kpS
  rw [q_up_ne (show 29 ≠ 25 by decide)]
  split
  · rfl
  · split
    · funext a y
      unfold q_up
      by_cases e : a = 25 ∧ y = 1
      · rw [if_pos e, if_neg (by omega), if_pos e]
      · rw [if_neg e, if_neg e]
    · funext a y
      unfold s_drO
      rw [q_up_ne (show 30 ≠ 25 by decide)]
      by_cases e : a = 25
      · subst e
        rw [if_neg (by omega), if_neg (by omega)]
        unfold q_up
        by_cases e2 : y = 1
        · rw [if_pos ⟨rfl, e2⟩, if_pos ⟨rfl, e2⟩]
        · rw [if_neg (fun q => e2 q.2), if_neg (fun q => e2 q.2)]
          show S 25 y = if (25 : Nat) = 30 ∧ 0 ≤ y ∧ y < 6 then S 30 (y + 1) else if (25 : Nat) = 30 ∧ y = 6 then S 30 0 else S 25 y
          rw [if_neg (by omega), if_neg (by omega)]
      · rw [q_up_ne (S := S) e]
        show _ = q_up (fun a z => if a = 30 ∧ 0 ≤ z ∧ z < 6 then S 30 (z + 1) else if a = 30 ∧ z = 6 then S 30 0 else S a z) 25 1 z a y
        rw [q_up_ne e]
theorem s_J_carry {S S2 A : q_S} {ψ : Int → Int} {v : Int} (J : s_Jc S A) (F : s_F S2 1 ψ) (o : s_offX (s_mk S) S2) (ok : s_ok ψ) (p : s_pz ψ) (hv : 0 ≤ v) : s_Jc (s_kpS (q_up S2 25 1 0) v) (q_up (q_w1 (s_rec A) ψ) 150 6 0) ∧ s_offM S (s_kpS (q_up S2 25 1 0) v) := by
  have h := s_J_op (v := v) J F o ⟨fun g => by omega, fun _ => ⟨ok, p⟩⟩
  have e : s_aft A ψ v = q_w1 (s_rec A) ψ := if_neg (by omega)
  rw [e] at h
  rw [s_kpS_25]
  exact ⟨(s_J_wipe h.1).1, s_offM_t h.2 (s_J_wipe h.1).2⟩
