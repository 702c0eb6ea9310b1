/-! offers in the cells c (their number), c + 1 (five numbers each), c + 2 (sorted) -/
def s_cO (c : Nat) : Prop := KC[c]? = some (.inl (4, q_kO c)) ∧ KC[c + 1]? = some (.inr (0, 50)) ∧ KC[c + 2]? = some (.inr (0, 10))
theorem s_cO8 : s_cO 8 := ⟨kc8, kc9, kc10⟩
theorem s_cO11 : s_cO 11 := ⟨kc11, kc12, kc13⟩
def s_addS (S : q_S) (c : Nat) (a h u p b : Int) : q_S := q_up (q_up (q_up (q_up (q_up (q_up S (c + 1) (S c 0 * 5 + 0) a) (c + 1) (S c 0 * 5 + 1) h) (c + 1) (S c 0 * 5 + 2) u) (c + 1) (S c 0 * 5 + 3) p) (c + 1) (S c 0 * 5 + 4) b) c 0 (S c 0 + 1)
def s_clS (S : q_S) (c : Nat) (k : Int) : q_S := q_up (q_cp S (c + 1) (c + 1) ((k + 1) * 5) ((k + 1) * 5 - 5) (S c 0 * 5 - (k + 1) * 5)) c 0 (S c 0 - 1)
theorem s_clS_n {S : q_S} {c : Nat} {k : Int} : s_clS S c k c 0 = S c 0 - 1 := q_up_eq
def s_reN (c : Nat) : Nat → q_S → q_S
  | 0, S => S
  | n + 1, S => s_reN c n (if S (c + 1) (5 * n + 2) = 0 then s_clS S c n else S)
theorem s_reN_t {c : Nat} {S R : q_S} {k : Int} (h : s_reN c (k + 1).toNat S = R) (h0 : 0 ≤ k) (e : S (c + 1) (5 * k + 2) = 0) : s_reN c (k + -1 + 1).toNat (s_clS S c k) = R := by
  obtain ⟨n, rfl⟩ : ∃ n : Nat, k = n := ⟨k.toNat, by omega⟩
  rw [show ((n : Int) + 1).toNat = n + 1 by omega] at h
  rw [show ((n : Int) + -1 + 1).toNat = n by omega, ← h]
  show _ = s_reN c n (if S (c + 1) (5 * n + 2) = 0 then s_clS S c n else S)
  rw [if_pos e]
theorem s_reN_f {c : Nat} {S R : q_S} {k : Int} (h : s_reN c (k + 1).toNat S = R) (h0 : 0 ≤ k) (e : ¬ S (c + 1) (5 * k + 2) = 0) : s_reN c (k + -1 + 1).toNat S = R := by
  obtain ⟨n, rfl⟩ : ∃ n : Nat, k = n := ⟨k.toNat, by omega⟩
  rw [show ((n : Int) + 1).toNat = n + 1 by omega] at h
  rw [show ((n : Int) + -1 + 1).toNat = n by omega, ← h]
  show _ = s_reN c n (if S (c + 1) (5 * n + 2) = 0 then s_clS S c n else S)
  rw [if_neg e]
theorem s_reN_0 {c : Nat} {S R : q_S} {k : Int} (h : s_reN c (k + 1).toNat S = R) (e : k < 0) : S = R := by
  rw [← h, show (k + 1).toNat = 0 by omega]
  rfl
def s_vl (S : q_S) (c : Nat) (s k : Int) : Int := s * S (c + 1) (5 * k + 3)
/-- the numbers before n, in the places of T, by their values, then by themselves -/
def s_so (V T : Int → Int) (n : Int) : Prop := (∀ i, 0 ≤ i → i < n → 0 ≤ T i ∧ T i < n) ∧ (∀ i j, 0 ≤ i → i < j → j < n → V (T i) < V (T j) ∨ (V (T i) = V (T j) ∧ T i < T j)) ∧ (∀ k, 0 ≤ k → k < n → ∃ i, 0 ≤ i ∧ i < n ∧ T i = k)
theorem s_so_0 {V T : Int → Int} : s_so V T 0 := ⟨fun i _ _ => by omega, fun i j _ _ _ => by omega, fun k _ _ => by omega⟩
theorem s_so_ins {V T X : Int → Int} {m u : Int} (H : s_so V T m) (u0 : 0 ≤ u) (u1 : u ≤ m) (h1 : ∀ j, 0 ≤ j → j < u → X j = T j) (h2 : X u = m) (h3 : ∀ j, u < j → j ≤ m → X j = T (j - 1) ∧ V m < V (T (j - 1))) (hx : u = 0 ∨ V (T (u - 1)) ≤ V m) : s_so V X (m + 1) := by
  have hle : ∀ j, 0 ≤ j → j < u → V (T j) ≤ V m := by
    intro j j0 j1
    rcases hx with hx | hx
    · omega
    · rcases (show j < u - 1 ∨ j = u - 1 by omega) with g | g
      · have := H.2.1 j (u - 1) j0 g (by omega); omega
      · rw [g]; exact hx
  refine ⟨fun i i0 i1 => ?_, fun i j i0 ij jm => ?_, fun k k0 k1 => ?_⟩
  · rcases (show i < u ∨ i = u ∨ u < i by omega) with g | g | g
    · rw [h1 i i0 g]; have := H.1 i i0 (by omega); omega
    · rw [g, h2]; omega
    · rw [(h3 i g (by omega)).1]; have := H.1 (i - 1) (by omega) (by omega); omega
  · rcases (show j < u ∨ j = u ∨ u < j by omega) with g | g | g
    · rw [h1 i i0 (by omega), h1 j (by omega) g]; exact H.2.1 i j i0 ij (by omega)
    · rw [h1 i i0 (by omega), g, h2]
      have a := hle i i0 (by omega)
      have b := H.1 i i0 (by omega)
      omega
    · rw [(h3 j g (by omega)).1]
      rcases (show i < u ∨ i = u ∨ u < i by omega) with f | f | f
      · rw [h1 i i0 f]; exact H.2.1 i (j - 1) i0 (by omega) (by omega)
      · rw [f, h2]; exact Or.inl (h3 j g (by omega)).2
      · rw [(h3 i f (by omega)).1]; exact H.2.1 (i - 1) (j - 1) (by omega) (by omega) (by omega)
  · rcases (show k < m ∨ k = m by omega) with g | g
    · obtain ⟨i, i0, i1, e⟩ := H.2.2 k k0 g
      rcases (show i < u ∨ u ≤ i by omega) with f | f
      · exact ⟨i, i0, by omega, (h1 i i0 f).trans e⟩
      · refine ⟨i + 1, by omega, by omega, ?_⟩
        rw [(h3 (i + 1) (by omega) (by omega)).1, show i + 1 - 1 = i by omega]
        exact e
    · exact ⟨u, u0, by omega, by rw [h2, g]⟩
theorem s_sg {s v : Int} (hs : s = 1 ∨ s = -1) (h0 : 0 ≤ v) (h1 : v ≤ 999) : -999 ≤ s * v ∧ s * v ≤ 999 := by
  rcases hs with rfl | rfl <;> omega
/-- one field of rows copied into another block of cells -/
def s_cO2 (S : q_S) (c b : Nat) : q_S := q_cp (q_up S c 0 (S b 0)) (b + 1) (c + 1) 0 0 50
