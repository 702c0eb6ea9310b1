/-! the pad read from left to right: P z the sign in the place z, -1 behind the last -/
def s_isd (P : Int → Int) (u z : Int) : Prop := 48 ≤ P z ∧ P z ≤ 48 + u
/-- what the model's cells say of the pad -/
def s_pd (S : q_S) (P : Int → Int) : Prop := (0 ≤ S 150 6 ∧ S 150 6 ≤ 80) ∧ (∀ z, 0 ≤ z → z < S 150 6 → S 155 z = P z) ∧ (∀ z, S 150 6 ≤ z → P z = -1) ∧ (∀ z, -1 ≤ P z ∧ P z ≤ 126)
theorem s_pd_u {S : q_S} {P : Int → Int} {k v : Int} (hk : k ≠ 6) (h : s_pd S P) : s_pd (q_up S 150 k v) P := by
  unfold s_pd
  rw [q_up_nz (Ne.symm hk), q_up_ne (by decide)]
  exact h
theorem s_pd_lt {S : q_S} {P : Int → Int} (h : s_pd S P) {z : Int} (h1 : 0 ≤ P z) : z < S 150 6 := by
  by_cases q : z < S 150 6
  · exact q
  · have := h.2.2.1 z (by omega); omega
/-- a number that goes on: value and place -/
def s_nmL (P : Int → Int) : Nat → Int × Int → Int × Int
  | 0, x => x
  | n + 1, x => if 0 < x.1 ∧ 48 ≤ P x.2 ∧ P x.2 ≤ 57 then s_nmL P n (10 * x.1 + (P x.2 - 48), x.2 + 1) else x
def s_num (P : Int → Int) (z : Int) : Int × Int := s_nmL P 2 (P z - 48, z + 1)
theorem s_nmL_t {P : Int → Int} {n : Nat} {x : Int × Int} (h : 0 < x.1 ∧ 48 ≤ P x.2 ∧ P x.2 ≤ 57) : s_nmL P (n + 1) x = s_nmL P n (10 * x.1 + (P x.2 - 48), x.2 + 1) := if_pos h
theorem s_nmL_f {P : Int → Int} {n : Nat} {x : Int × Int} (h : ¬ (0 < x.1 ∧ 48 ≤ P x.2 ∧ P x.2 ≤ 57)) : s_nmL P n x = x := by
  cases n with
  | zero => rfl
  | succ n => exact if_neg h
/-- other cells, and the model's other fields, stay -/
def s_offP (S S2 : q_S) : Prop := (∀ a, a ≠ 150 → S2 a = S a) ∧ ∀ k, (k < 10 ∨ 16 < k) → S2 150 k = S 150 k
theorem s_offP_r {S : q_S} : s_offP S S := ⟨fun _ _ => rfl, fun _ _ => rfl⟩
theorem s_offP_u {S S2 : q_S} {k v : Int} (h : s_offP S S2) (h0 : 10 ≤ k) (h1 : k ≤ 16) : s_offP S (q_up S2 150 k v) :=
  ⟨fun a ha => (q_up_ne ha).trans (h.1 a ha), fun j hj => (q_up_nz (by omega)).trans (h.2 j hj)⟩
theorem s_offP_t {S S2 S3 : q_S} (h : s_offP S S2) (h2 : s_offP S2 S3) : s_offP S S3 := ⟨fun a ha => (h2.1 a ha).trans (h.1 a ha), fun j hj => (h2.2 j hj).trans (h.2 j hj)⟩
theorem s_pd_o {S S2 : q_S} {P : Int → Int} (h : s_offP S S2) (h2 : s_pd S P) : s_pd S2 P := by
  unfold s_pd
  rw [h.2 6 (by omega), h.1 155 (by decide)]
  exact h2
/-- an offer's hour, units and price: whether they stand there, where reading stops -/
def s_tmOk (P : Int → Int) (z : Int) : Prop := P z = 64 ∧ s_isd P 9 (z + 1) ∧ P (z + 2) = 42 ∧ s_isd P 9 (z + 3) ∧ P (s_num P (z + 3)).2 = 58 ∧ s_isd P 9 ((s_num P (z + 3)).2 + 1)
noncomputable def s_tmAt (P : Int → Int) (z : Int) : Int := if P z ≠ 64 then z else if ¬ (48 ≤ P (z + 1) ∧ P (z + 1) ≤ 57) then z + 1 else if P (z + 2) ≠ 42 then z + 2 else if ¬ (48 ≤ P (z + 3) ∧ P (z + 3) ≤ 57) then z + 3 else if P (s_num P (z + 3)).2 ≠ 58 then (s_num P (z + 3)).2 else if ¬ (48 ≤ P ((s_num P (z + 3)).2 + 1) ∧ P ((s_num P (z + 3)).2 + 1) ≤ 57) then (s_num P (z + 3)).2 + 1 else (s_num P ((s_num P (z + 3)).2 + 1)).2
