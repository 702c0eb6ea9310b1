/-! fields of rows in their blocks of cells; copies; the history -/
def s_bF (f : Nat) : Prop := KC[f]? = some (.inl (0, q_kF f)) ∧ KC[f + 1]? = some (.inr (0, 6)) ∧ KC[f + 2]? = some (.inr (0, 6)) ∧ KC[f + 3]? = some (.inr (0, 6)) ∧ KC[f + 4]? = some (.inr (0, 6)) ∧ KC[f + 5]? = some (.inr (0, 10)) ∧ KC[f + 6]? = some (.inr (0, 360)) ∧ s_cO (f + 7) ∧ s_cO (f + 10)
theorem s_bF_1 : s_bF 1 := ⟨kc1, kc2, kc3, kc4, kc5, kc6, kc7, ⟨kc8, kc9, kc10⟩, ⟨kc11, kc12, kc13⟩⟩
theorem s_bF_31 : s_bF 31 := ⟨kc31, kc32, kc33, kc34, kc35, kc36, kc37, ⟨kc38, kc39, kc40⟩, ⟨kc41, kc42, kc43⟩⟩
theorem s_bF_44 : s_bF 44 := ⟨kc44, kc45, kc46, kc47, kc48, kc49, kc50, ⟨kc51, kc52, kc53⟩, ⟨kc54, kc55, kc56⟩⟩
theorem s_bF_57 : s_bF 57 := ⟨kc57, kc58, kc59, kc60, kc61, kc62, kc63, ⟨kc64, kc65, kc66⟩, ⟨kc67, kc68, kc69⟩⟩
theorem s_bF_70 : s_bF 70 := ⟨kc70, kc71, kc72, kc73, kc74, kc75, kc76, ⟨kc77, kc78, kc79⟩, ⟨kc80, kc81, kc82⟩⟩
theorem s_bF_83 : s_bF 83 := ⟨kc83, kc84, kc85, kc86, kc87, kc88, kc89, ⟨kc90, kc91, kc92⟩, ⟨kc93, kc94, kc95⟩⟩
theorem s_bF_96 : s_bF 96 := ⟨kc96, kc97, kc98, kc99, kc100, kc101, kc102, ⟨kc103, kc104, kc105⟩, ⟨kc106, kc107, kc108⟩⟩
theorem s_bF_109 : s_bF 109 := ⟨kc109, kc110, kc111, kc112, kc113, kc114, kc115, ⟨kc116, kc117, kc118⟩, ⟨kc119, kc120, kc121⟩⟩
theorem s_bF_123 : s_bF 123 := ⟨kc123, kc124, kc125, kc126, kc127, kc128, kc129, ⟨kc130, kc131, kc132⟩, ⟨kc133, kc134, kc135⟩⟩
theorem s_bF_136 : s_bF 136 := ⟨kc136, kc137, kc138, kc139, kc140, kc141, kc142, ⟨kc143, kc144, kc145⟩, ⟨kc146, kc147, kc148⟩⟩
def s_hF (f : Nat) : Prop := f = 31 ∨ f = 44 ∨ f = 57 ∨ f = 70 ∨ f = 83 ∨ f = 96 ∨ f = 109
theorem s_hF_b {f : Nat} (h : s_hF f) : s_bF f := by
  rcases h with rfl | rfl | rfl | rfl | rfl | rfl | rfl
  · exact s_bF_31
  · exact s_bF_44
  · exact s_bF_57
  · exact s_bF_70
  · exact s_bF_83
  · exact s_bF_96
  · exact s_bF_109
theorem s_hF_i {f : Nat} (h : s_hF f) : 31 ≤ f ∧ f ≤ 109 := by unfold s_hF at h; omega
theorem s_hF_d {f g : Nat} (h : s_hF f) (k : s_hF g) (n : f ≠ g) : f + 12 < g ∨ g + 12 < f := by unfold s_hF at h k; omega
def s_cpF (S : q_S) (f g : Nat) : q_S := q_up (s_cO2 (s_cO2 (q_cp (q_up (q_cp (q_cp (q_cp (q_cp (q_cp (q_up S f 0 (S g 0)) (g + 1) (f + 1) 0 0 6) (g + 2) (f + 2) 0 0 6) (g + 3) (f + 3) 0 0 6) (g + 4) (f + 4) 0 0 6) (g + 5) (f + 5) 0 0 10) f 6 (S g 6)) (g + 6) (f + 6) 0 0 360) (f + 7) (g + 7)) (f + 10) (g + 10)) f 10 (S g 10)
theorem s_cO2_ne {S : q_S} {c b a : Nat} (h : a ≠ c) (h1 : a ≠ c + 1) : s_cO2 S c b a = S a := by
  unfold s_cO2
  rw [q_cp_ne h1, q_up_ne h]
theorem s_cpF_o {S : q_S} {f g a : Nat} (h : a < f ∨ f + 11 < a) : s_cpF S f g a = S a := by
  unfold s_cpF
  rw [q_up_ne (by omega), s_cO2_ne (by omega) (by omega), s_cO2_ne (by omega) (by omega), q_cp_ne (by omega), q_up_ne (by omega), q_cp_ne (by omega), q_cp_ne (by omega), q_cp_ne (by omega), q_cp_ne (by omega), q_cp_ne (by omega), q_up_ne (by omega)]
theorem s_cO2_0 {S : q_S} {c b : Nat} : s_cO2 S c b c 0 = S b 0 := by
  unfold s_cO2
  rw [q_cp_ne (by omega), q_up_eq]
theorem s_cO2_1 {S : q_S} {c b : Nat} (h : b + 1 ≠ c) {j : Int} (h0 : 0 ≤ j) (h1 : j < 50) : s_cO2 S c b (c + 1) j = S (b + 1) j := by
  unfold s_cO2
  rw [q_cp_in h0 (by omega), q_up_ne h, show (0 : Int) + (j - 0) = j by omega]
theorem s_cpF_F {S : q_S} {f g : Nat} {φ : Int → Int} (d : f + 12 < g ∨ g + 12 < f) (n3 : φ 3 ≤ 10) (n4 : φ 4 ≤ 10) (F : s_F S g φ) : s_F (s_cpF S f g) f φ := by
  obtain ⟨k0, k6, kt, kr, kw, kj, kn, km, ka, kb, kc⟩ := F
  unfold s_F s_cpF
  refine ⟨?_, ?_, ?_, fun r x y => ⟨?_, ?_, ?_, ?_⟩, fun h x y => ?_, fun j x y => ?_, ?_, ?_, fun i p x y x2 y2 => ?_, fun i x y => ?_, fun i p x y x2 y2 => ?_⟩
  · rw [q_up_nz (by decide), s_cO2_ne (by omega) (by omega), s_cO2_ne (by omega) (by omega), q_cp_ne (by omega), q_up_nz (by decide), q_cp_ne (by omega), q_cp_ne (by omega), q_cp_ne (by omega), q_cp_ne (by omega), q_cp_ne (by omega), q_up_eq]; exact k0
  · rw [q_up_nz (by decide), s_cO2_ne (by omega) (by omega), s_cO2_ne (by omega) (by omega), q_cp_ne (by omega), q_up_eq]; exact k6
  · rw [q_up_eq]; exact kt
  · rw [q_up_ne (by omega), s_cO2_ne (by omega) (by omega), s_cO2_ne (by omega) (by omega), q_cp_ne (by omega), q_up_ne (by omega), q_cp_ne (by omega), q_cp_ne (by omega), q_cp_ne (by omega), q_cp_ne (by omega), q_cp_in x (by omega), show (0 : Int) + (r - 0) = r by omega, q_up_ne (by omega)]; exact (kr r x y).1
  · rw [q_up_ne (by omega), s_cO2_ne (by omega) (by omega), s_cO2_ne (by omega) (by omega), q_cp_ne (by omega), q_up_ne (by omega), q_cp_ne (by omega), q_cp_ne (by omega), q_cp_ne (by omega), q_cp_in x (by omega), show (0 : Int) + (r - 0) = r by omega, q_cp_ne (by omega), q_up_ne (by omega)]; exact (kr r x y).2.1
  · rw [q_up_ne (by omega), s_cO2_ne (by omega) (by omega), s_cO2_ne (by omega) (by omega), q_cp_ne (by omega), q_up_ne (by omega), q_cp_ne (by omega), q_cp_ne (by omega), q_cp_in x (by omega), show (0 : Int) + (r - 0) = r by omega, q_cp_ne (by omega), q_cp_ne (by omega), q_up_ne (by omega)]; exact (kr r x y).2.2.1
  · rw [q_up_ne (by omega), s_cO2_ne (by omega) (by omega), s_cO2_ne (by omega) (by omega), q_cp_ne (by omega), q_up_ne (by omega), q_cp_ne (by omega), q_cp_in x (by omega), show (0 : Int) + (r - 0) = r by omega, q_cp_ne (by omega), q_cp_ne (by omega), q_cp_ne (by omega), q_up_ne (by omega)]; exact (kr r x y).2.2.2
  · rw [q_up_ne (by omega), s_cO2_ne (by omega) (by omega), s_cO2_ne (by omega) (by omega), q_cp_ne (by omega), q_up_ne (by omega), q_cp_in x (by omega), show (0 : Int) + (h - 0) = h by omega, q_cp_ne (by omega), q_cp_ne (by omega), q_cp_ne (by omega), q_cp_ne (by omega), q_up_ne (by omega)]; exact kw h x y
  · rw [q_up_ne (by omega), s_cO2_ne (by omega) (by omega), s_cO2_ne (by omega) (by omega), q_cp_in x (by omega), show (0 : Int) + (j - 0) = j by omega, q_up_ne (by omega), q_cp_ne (by omega), q_cp_ne (by omega), q_cp_ne (by omega), q_cp_ne (by omega), q_cp_ne (by omega), q_up_ne (by omega)]; exact kj j x y
  · rw [q_up_ne (by omega), s_cO2_ne (by omega) (by omega), s_cO2_0, q_cp_ne (by omega), q_up_ne (by omega), q_cp_ne (by omega), q_cp_ne (by omega), q_cp_ne (by omega), q_cp_ne (by omega), q_cp_ne (by omega), q_up_ne (by omega)]; exact kn
  · rw [q_up_ne (by omega), s_cO2_0, s_cO2_ne (by omega) (by omega), q_cp_ne (by omega), q_up_ne (by omega), q_cp_ne (by omega), q_cp_ne (by omega), q_cp_ne (by omega), q_cp_ne (by omega), q_cp_ne (by omega), q_up_ne (by omega)]; exact km
  · rw [q_up_ne (by omega), s_cO2_ne (by omega) (by omega), show f + 8 = f + 7 + 1 from rfl, s_cO2_1 (by omega) (by omega) (by omega), q_cp_ne (by omega), q_up_ne (by omega), q_cp_ne (by omega), q_cp_ne (by omega), q_cp_ne (by omega), q_cp_ne (by omega), q_cp_ne (by omega), q_up_ne (by omega)]; exact ka i p x y x2 y2
  · rw [q_up_ne (by omega), s_cO2_ne (by omega) (by omega), show f + 8 = f + 7 + 1 from rfl, s_cO2_1 (by omega) (by omega) (by omega), q_cp_ne (by omega), q_up_ne (by omega), q_cp_ne (by omega), q_cp_ne (by omega), q_cp_ne (by omega), q_cp_ne (by omega), q_cp_ne (by omega), q_up_ne (by omega)]; exact kb i x y
  · rw [q_up_ne (by omega), show f + 11 = f + 10 + 1 from rfl, s_cO2_1 (by omega) (by omega) (by omega), s_cO2_ne (by omega) (by omega), q_cp_ne (by omega), q_up_ne (by omega), q_cp_ne (by omega), q_cp_ne (by omega), q_cp_ne (by omega), q_cp_ne (by omega), q_cp_ne (by omega), q_up_ne (by omega)]; exact kc i p x y x2 y2
/-- the states that are kept: each in a block of its own -/
def s_hs (S : q_S) : Prop := (∀ i, 0 ≤ i → i < 7 → ∃ f : Nat, S 30 i = f ∧ s_hF f) ∧ ∀ i j, 0 ≤ i → i < 7 → 0 ≤ j → j < 7 → S 30 i = S 30 j → i = j
theorem s_hs_f {S : q_S} (H : s_hs S) {i : Int} (h0 : 0 ≤ i) (h1 : i < 7) : S 30 i = ((S 30 i).toNat : Int) ∧ s_hF (S 30 i).toNat := by
  obtain ⟨f, e, h⟩ := H.1 i h0 h1
  rw [e, Int.toNat_natCast]
  exact ⟨rfl, h⟩
def s_drO (S : q_S) : q_S := fun a z => if a = 30 ∧ 0 ≤ z ∧ z < 6 then S 30 (z + 1) else if a = 30 ∧ z = 6 then S 30 0 else S a z
def s_drN (S : q_S) (k : Int) : q_S := fun a z => if a = 30 ∧ 0 ≤ z ∧ z < k then S 30 (z + 1) else S a z
theorem s_drN_0 {S : q_S} : s_drN S 0 = S := by
  funext a z
  unfold s_drN
  rw [if_neg (by omega)]
theorem s_drN_s {S : q_S} {k v : Int} (h0 : 0 ≤ k) (hv : v = S 30 (k + 1)) : q_up (s_drN S k) 30 k v = s_drN S (k + 1) := by
  funext a z
  unfold s_drN q_up
  by_cases e : a = 30 ∧ z = k
  · rw [if_pos e, if_pos (by omega), e.2, hv]
  · rw [if_neg e]
    show (if a = 30 ∧ 0 ≤ z ∧ z < k then S 30 (z + 1) else S a z) = _
    by_cases e2 : a = 30 ∧ 0 ≤ z ∧ z < k
    · rw [if_pos e2, if_pos (by omega)]
    · rw [if_neg e2, if_neg (by omega)]
theorem s_drN_hi {S : q_S} {k z : Int} (h : k ≤ z) : s_drN S k 30 z = S 30 z := by
  unfold s_drN
  rw [if_neg (by omega)]
theorem s_drN_6 {S : q_S} {v : Int} (hv : v = S 30 0) : q_up (s_drN S 6) 30 6 v = s_drO S := by
  funext a z
  unfold s_drN q_up s_drO
  by_cases e : a = 30 ∧ z = 6
  · rw [if_pos e, if_neg (by omega), if_pos e, hv]
  · rw [if_neg e, if_neg e]
def s_kpS (S : q_S) (v : Int) : q_S := if v < 0 then S else if S 29 0 < 6 then q_up S 29 0 (S 29 0 + 1) else s_drO S
theorem p_eqS {Γ : q_G} {M : q_M} {d bc bs pc : Nat} {L : List (Nat × Value)} {st : List Value} {K : List q_K} {S S' : q_S} {Q : Option Value → q_W → Prop} (h : S' = S) (k : q_Go Γ M d bc bs pc L st (K, S') Q) : q_Go Γ M d bc bs pc L st (K, S) Q := by
  rw [← h]
  exact k
