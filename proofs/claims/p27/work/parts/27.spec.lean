/-! the orders of the pad, one behind the other -/
theorem s_pd_w {S : q_S} {P φ : Int → Int} (h : s_pd S P) : s_pd (q_w1 S φ) P := by
  unfold s_pd
  rw [q_w1_n (by decide), q_w1_n (by decide)]
  exact h
theorem s_offP_w {R S3 W : q_S} {φ ψ : Int → Int} (h : s_offP (q_w1 R φ) S3) (h2 : s_offP S3 W) : s_offP (q_w1 R ψ) (q_w1 W ψ) :=
  ⟨fun a ha => by
    by_cases e : a = 151
    · rw [e, q_w1_s, q_w1_s]
    · rw [q_w1_n e, q_w1_n e, h2.1 a ha, h.1 a ha, q_w1_n e], fun k hk => by
    rw [q_w1_n (by decide), q_w1_n (by decide), h2.2 k hk, h.2 k hk, q_w1_n (by decide)]⟩
theorem s_offP_c {S S2 : q_S} {c : Nat} {k v : Int} (h : s_offP S S2) : s_offP (q_up S c k v) (q_up S2 c k v) :=
  ⟨fun a ha => by
    funext z
    unfold q_up
    rw [h.1 a ha], fun j hj => by
    unfold q_up
    rw [h.2 j hj]⟩
theorem s_offP_cp {S S2 : q_S} {a b : Nat} {f g n : Int} (h : s_offP S S2) (ha : a ≠ 150) : s_offP (q_cp S a b f g n) (q_cp S2 a b f g n) :=
  ⟨fun x hx => by
    funext z
    unfold q_cp
    rw [h.1 x hx, h.1 a ha], fun j hj => by
    unfold q_cp
    rw [h.2 j hj, h.1 a ha]⟩
theorem s_offP_rec {S S2 : q_S} (h : s_offP S S2) : s_offP (s_rec S) (s_rec S2) := by
  unfold s_rec
  rw [h.2 2 (Or.inl (by decide))]
  split
  · exact s_offP_c (s_offP_cp (s_offP_c (s_offP_cp h (by decide))) (by decide))
  · exact s_offP_c (s_offP_cp h (by decide))
theorem s_pd_rec {S : q_S} {P : Int → Int} (h : s_pd S P) : s_pd (s_rec S) P := by
  unfold s_pd
  rw [s_rec_f (by decide), s_rec_ne (by decide) (by decide)]
  exact h
def s_do (P : Int → Int) (φ : Int → Int) (z : Int) : Int := s_doV φ (P z) (s_o1 P z) (s_o2 P z) (s_o3 P z) (s_o4 P z) (s_o5 P z)
noncomputable def s_dp (P : Int → Int) (φ : Int → Int) (z : Int) : Int → Int := s_doP φ (P z) (s_o1 P z) (s_o2 P z) (s_o3 P z) (s_o4 P z) (s_o5 P z)
noncomputable def s_nz (P : Int → Int) (z : Int) : Int := s_odAt P z + q_B (P (s_odAt P z) = 59)
noncomputable def s_coL (P : Int → Int) (N : Int) : Nat → (Int → Int) → Int → Int → (Int → Int) × Int
  | 0, φ, _, k => (φ, k)
  | n + 1, φ, z, k => if z < N then (if s_do P φ z = 1 then s_coL P N n (s_dp P φ z) (s_nz P z) (k + 1) else (s_dp P φ z, k)) else (φ, k)
noncomputable def s_co (P : Int → Int) (N : Int) (φ : Int → Int) : (Int → Int) × Int := s_coL P N 82 φ 0 0
theorem s_coL_e {P : Int → Int} {N z k : Int} {φ : Int → Int} {n : Nat} {r : (Int → Int) × Int} (h : s_coL P N n φ z k = r) (hz : ¬ z < N) : (φ, k) = r := by
  rw [← h]
  cases n with
  | zero => rfl
  | succ n => exact (if_neg hz).symm
theorem s_coL_1 {P : Int → Int} {N z k : Int} {φ : Int → Int} {n : Nat} {r : (Int → Int) × Int} (h : s_coL P N n φ z k = r) (hn : 0 < n) (hz : z < N) (hd : s_do P φ z = 1) : s_coL P N (n - 1) (s_dp P φ z) (s_nz P z) (k + 1) = r := by
  obtain ⟨m, rfl⟩ : ∃ m, n = m + 1 := ⟨n - 1, by omega⟩
  rw [← h]
  exact ((if_pos hz).trans (if_pos hd)).symm
theorem s_coL_0 {P : Int → Int} {N z k : Int} {φ : Int → Int} {n : Nat} {r : (Int → Int) × Int} (h : s_coL P N n φ z k = r) (hn : 0 < n) (hz : z < N) (hd : s_do P φ z ≠ 1) : (s_dp P φ z, k) = r := by
  obtain ⟨m, rfl⟩ : ∃ m, n = m + 1 := ⟨n - 1, by omega⟩
  rw [← h]
  exact ((if_pos hz).trans (if_neg hd)).symm
theorem s_ffL_n {P : Int → Int} {N z : Int} {m : Nat} (h : s_ffL P N m z = -6) (hm : 81 ≤ z + m) (hz : z ≤ 80) (z0 : 0 ≤ z) (hk : s_odOk P z) (hA : z < s_odAt P z) (hN : ∀ y, N ≤ y → P y = -1) (hl : s_nz P z < N) : ∃ m2 : Nat, s_ffL P N m2 (s_nz P z) = -6 ∧ 81 ≤ s_nz P z + m2 := by
  unfold s_nz at hl ⊢
  by_cases e : s_odAt P z = N
  · have h2 := hN (s_odAt P z) (by omega)
    rw [q_B_f (by omega)] at hl
    omega
  · by_cases e2 : P (s_odAt P z) = 59
    · have h4 := s_ffL_4 h (by omega) hk e e2
      rw [q_B_t e2]
      exact ⟨m - 1, h4, by omega⟩
    · have h4 := s_ffL_3 h (by omega) hk e e2
      omega
noncomputable def s_coV (P : Int → Int) (N : Int) (φ : Int → Int) : Int := if s_ff P N = -6 then (s_co P N φ).2 else -3
noncomputable def s_coS (P : Int → Int) (N : Int) (S : q_S) : q_S := if s_ff P N = -6 then q_up (q_w1 (s_rec S) (s_co P N (S 151)).1) 150 6 0 else S
theorem s_offP_6 {R S3 : q_S} {φ : Int → Int} {r : (Int → Int) × Int} {k : Int} (h : s_offP (q_w1 R φ) S3) (e : (φ, k) = r) : s_offP (q_up (q_w1 R r.1) 150 6 0) (q_up S3 150 6 0) := by
  rw [← e]
  exact s_offP_c h
/-- from the place z on the pad can be read to its end, if go is 1 -/
def s_goE (P : Int → Int) (N z go : Int) : Prop := go = 1 → z < N → ∃ m : Nat, s_ffL P N m z = -6 ∧ 81 ≤ z + m
