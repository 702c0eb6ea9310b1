/-! the pad read from left to right: P z the sign in the place z, -1 behind the last -/
def s_isd (P : Int → Int) (u z : Int) : Prop := 48 ≤ P z ∧ P z ≤ 48 + u
/-- what the model's cells say of the pad -/
def s_pd (S : q_S) (P : Int → Int) : Prop := (0 ≤ S 150 6 ∧ S 150 6 ≤ 80) ∧ (∀ z, 0 ≤ z → z < S 150 6 → S 155 z = P z) ∧ (∀ z, S 150 6 ≤ z → P z = -1) ∧ (∀ z, -1 ≤ P z ∧ P z ≤ 126)
theorem s_pd_u {S : q_S} {P : Int → Int} {k v : Int} (hk : k ≠ 6) (h : s_pd S P) : s_pd (q_up S 150 k v) P := by
  unfold s_pd
  rw [q_up_nz (Ne.symm hk), q_up_ne (by decide)]
  exact h
theorem s_pd_lt {S : q_S} {P : Int → Int} (h : s_pd S P) {z : Int} (h1 : 0 ≤ P z) : z < S 150 6 := by
  by_cases q : z < S 150 6
  · exact q
  · have := h.2.2.1 z (by omega); omega
/-- a number that goes on: value and place -/
def s_nmL (P : Int → Int) : Nat → Int × Int → Int × Int
  | 0, x => x
  | n + 1, x => if 0 < x.1 ∧ 48 ≤ P x.2 ∧ P x.2 ≤ 57 then s_nmL P n (10 * x.1 + (P x.2 - 48), x.2 + 1) else x
def s_num (P : Int → Int) (z : Int) : Int × Int := s_nmL P 2 (P z - 48, z + 1)
theorem s_nmL_t {P : Int → Int} {n : Nat} {x : Int × Int} (h : 0 < x.1 ∧ 48 ≤ P x.2 ∧ P x.2 ≤ 57) : s_nmL P (n + 1) x = s_nmL P n (10 * x.1 + (P x.2 - 48), x.2 + 1) := if_pos h
theorem s_nmL_f {P : Int → Int} {n : Nat} {x : Int × Int} (h : ¬ (0 < x.1 ∧ 48 ≤ P x.2 ∧ P x.2 ≤ 57)) : s_nmL P n x = x := by
  cases n with
  | zero => rfl
  | succ n => exact if_neg h
theorem s_nmL_e {P : Int → Int} {n : Nat} {v a : Int} {r : Int × Int} (h : s_nmL P n (v, a) = r) (hc : n = 0 ∨ ¬ (0 < v ∧ 48 ≤ P a ∧ P a ≤ 57)) : r = (v, a) := by
  rw [← h]
  rcases hc with rfl | hc
  · rfl
  · exact s_nmL_f hc
theorem s_nmL_c {P : Int → Int} {n m : Nat} {v a : Int} {r : Int × Int} (h : s_nmL P n (v, a) = r) (hn : n = m + 1) (h0 : 0 < v) (h1 : 48 ≤ P a) (h2 : P a ≤ 57) : s_nmL P m (10 * v + (P a - 48), a + 1) = r := by
  rw [← h, hn]
  exact (s_nmL_t (x := (v, a)) ⟨h0, h1, h2⟩).symm
/-- other cells, and the model's other fields, stay -/
def s_offP (S S2 : q_S) : Prop := (∀ a, a ≠ 150 → S2 a = S a) ∧ ∀ k, (k < 10 ∨ 16 < k) → S2 150 k = S 150 k
theorem s_offP_r {S : q_S} : s_offP S S := ⟨fun _ _ => rfl, fun _ _ => rfl⟩
theorem s_offP_u {S S2 : q_S} {k v : Int} (h : s_offP S S2) (h0 : 10 ≤ k) (h1 : k ≤ 16) : s_offP S (q_up S2 150 k v) :=
  ⟨fun a ha => (q_up_ne ha).trans (h.1 a ha), fun j hj => (q_up_nz (by omega)).trans (h.2 j hj)⟩
theorem s_offP_t {S S2 S3 : q_S} (h : s_offP S S2) (h2 : s_offP S2 S3) : s_offP S S3 := ⟨fun a ha => (h2.1 a ha).trans (h.1 a ha), fun j hj => (h2.2 j hj).trans (h.2 j hj)⟩
theorem s_pd_o {S S2 : q_S} {P : Int → Int} (h : s_offP S S2) (h2 : s_pd S P) : s_pd S2 P := by
  unfold s_pd
  rw [h.2 6 (by omega), h.1 155 (by decide)]
  exact h2
/-- an offer's hour, units and price: whether they stand there, where reading stops -/
def s_tmOk (P : Int → Int) (z : Int) : Prop := P z = 64 ∧ (48 ≤ P (z + 1) ∧ P (z + 1) ≤ 57) ∧ P (z + 1 + 1) = 42 ∧ (48 ≤ P (z + 1 + 1 + 1) ∧ P (z + 1 + 1 + 1) ≤ 57) ∧ P (s_num P (z + 1 + 1 + 1)).2 = 58 ∧ (48 ≤ P ((s_num P (z + 1 + 1 + 1)).2 + 1) ∧ P ((s_num P (z + 1 + 1 + 1)).2 + 1) ≤ 57)
def s_tmAt (P : Int → Int) (z : Int) : Int := if P z ≠ 64 then z else if ¬ (48 ≤ P (z + 1) ∧ P (z + 1) ≤ 57) then z + 1 else if P (z + 1 + 1) ≠ 42 then z + 1 + 1 else if ¬ (48 ≤ P (z + 1 + 1 + 1) ∧ P (z + 1 + 1 + 1) ≤ 57) then z + 1 + 1 + 1 else if P (s_num P (z + 1 + 1 + 1)).2 ≠ 58 then (s_num P (z + 1 + 1 + 1)).2 else if ¬ (48 ≤ P ((s_num P (z + 1 + 1 + 1)).2 + 1) ∧ P ((s_num P (z + 1 + 1 + 1)).2 + 1) ≤ 57) then (s_num P (z + 1 + 1 + 1)).2 + 1 else (s_num P ((s_num P (z + 1 + 1 + 1)).2 + 1)).2
/-- two digits about '=' -/
def s_eqOk (P : Int → Int) (u v z : Int) : Prop := (48 ≤ P z ∧ P z ≤ 48 + u) ∧ P (z + 1) = 61 ∧ (48 ≤ P (z + 1 + 1) ∧ P (z + 1 + 1) ≤ 48 + v)
def s_eqAt (P : Int → Int) (u v z : Int) : Int := if ¬ (48 ≤ P z ∧ P z ≤ 48 + u) then z else if P (z + 1) ≠ 61 then z + 1 else if ¬ (48 ≤ P (z + 1 + 1) ∧ P (z + 1 + 1) ≤ 48 + v) then z + 1 + 1 else z + 1 + 1 + 1
/-- one order -/
def s_odOk (P : Int → Int) (z : Int) : Prop := (P z = 116 ∧ s_eqOk P 5 4 (z + 1)) ∨ (P z = 119 ∧ s_eqOk P 9 9 (z + 1)) ∨ (P z = 97 ∧ (48 ≤ P (z + 1) ∧ P (z + 1) ≤ 48 + 5) ∧ s_tmOk P (z + 1 + 1)) ∨
  (P z = 98 ∧ (48 ≤ P (z + 1) ∧ P (z + 1) ≤ 48 + 5) ∧ P (z + 1 + 1) = 62 ∧ (48 ≤ P (z + 1 + 1 + 1) ∧ P (z + 1 + 1 + 1) ≤ 48 + 5) ∧ s_tmOk P (z + 1 + 1 + 1 + 1)) ∨ P z = 109
def s_odAt (P : Int → Int) (z : Int) : Int := if P z = 116 then s_eqAt P 5 4 (z + 1) else if P z = 119 then s_eqAt P 9 9 (z + 1) else if P z = 97 then (if ¬ (48 ≤ P (z + 1) ∧ P (z + 1) ≤ 48 + 5) then z + 1 else s_tmAt P (z + 1 + 1)) else
  if P z = 98 then (if ¬ (48 ≤ P (z + 1) ∧ P (z + 1) ≤ 48 + 5) then z + 1 else if P (z + 1 + 1) ≠ 62 then z + 1 + 1 else if ¬ (48 ≤ P (z + 1 + 1 + 1) ∧ P (z + 1 + 1 + 1) ≤ 48 + 5) then z + 1 + 1 + 1 else s_tmAt P (z + 1 + 1 + 1 + 1)) else if P z = 109 then z + 1 else z
def s_o1 (P : Int → Int) (z : Int) : Int := if P z = 109 then 0 else P (z + 1) - 48
def s_o2 (P : Int → Int) (z : Int) : Int := if P z = 97 ∨ P z = 109 then 0 else P (z + 1 + 1 + 1) - 48
def s_ot (P : Int → Int) (z : Int) : Int := if P z = 97 then z + 1 + 1 else z + 1 + 1 + 1 + 1
def s_o3 (P : Int → Int) (z : Int) : Int := P (s_ot P z + 1) - 48
def s_o4 (P : Int → Int) (z : Int) : Int := (s_num P (s_ot P z + 1 + 1 + 1)).1
def s_o5 (P : Int → Int) (z : Int) : Int := (s_num P ((s_num P (s_ot P z + 1 + 1 + 1)).2 + 1)).1
/-! the whole pad: where its first fault is; N its length -/
noncomputable def s_ffL (P : Int → Int) (N : Int) : Nat → Int → Int
  | 0, z => z
  | n + 1, z => q_if (¬ s_odOk P z) (s_odAt P z) (q_if (s_odAt P z = N) (-6) (q_if (P (s_odAt P z) = 59) (s_ffL P N n (s_odAt P z + 1)) (s_odAt P z)))
noncomputable def s_ff (P : Int → Int) (N : Int) : Int := s_ffL P N 81 0
theorem s_ffL_1 {P : Int → Int} {N z r : Int} {n : Nat} (h : s_ffL P N n z = r) (hn : 0 < n) (h1 : ¬ s_odOk P z) : s_odAt P z = r := by
  obtain ⟨m, rfl⟩ : ∃ m, n = m + 1 := ⟨n - 1, by omega⟩
  rw [← h]
  exact (q_if_t h1).symm
theorem s_ffL_2 {P : Int → Int} {N z r : Int} {n : Nat} (h : s_ffL P N n z = r) (hn : 0 < n) (h1 : s_odOk P z) (h2 : s_odAt P z = N) : -6 = r := by
  obtain ⟨m, rfl⟩ : ∃ m, n = m + 1 := ⟨n - 1, by omega⟩
  rw [← h]
  exact ((q_if_f (fun q => q h1)).trans (q_if_t h2)).symm
theorem s_ffL_3 {P : Int → Int} {N z r : Int} {n : Nat} (h : s_ffL P N n z = r) (hn : 0 < n) (h1 : s_odOk P z) (h2 : s_odAt P z ≠ N) (h3 : P (s_odAt P z) ≠ 59) : s_odAt P z = r := by
  obtain ⟨m, rfl⟩ : ∃ m, n = m + 1 := ⟨n - 1, by omega⟩
  rw [← h]
  exact ((q_if_f (fun q => q h1)).trans ((q_if_f h2).trans (q_if_f h3))).symm
theorem s_ffL_4 {P : Int → Int} {N z r : Int} {n : Nat} (h : s_ffL P N n z = r) (hn : 0 < n) (h1 : s_odOk P z) (h2 : s_odAt P z ≠ N) (h3 : P (s_odAt P z) = 59) : s_ffL P N (n - 1) (s_odAt P z + 1) = r := by
  obtain ⟨m, rfl⟩ : ∃ m, n = m + 1 := ⟨n - 1, by omega⟩
  rw [← h]
  exact ((q_if_f (fun q => q h1)).trans ((q_if_f h2).trans (q_if_t h3))).symm
