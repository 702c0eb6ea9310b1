theorem p_eq {Γ : q_G} {M : q_M} {d bc bs pc : Nat} {L : List (Nat × Value)} {st : List Value} {w : q_W} {Q : Option Value → q_W → Prop} {z y : Int} (h : z = y) (k : q_Go Γ M d bc bs pc L (q_i y :: st) w Q) : q_Go Γ M d bc bs pc L (q_i z :: st) w Q := by
  rw [h]
  exact k
/-- the light holds the rows before n in the hour h -/
def s_lkN (S : q_S) (φ : Int → Int) (h n : Int) : Prop := ∀ a, 0 ≤ a → a < n → (∀ b, 0 ≤ b → b < φ 0 → S 15 (6 * a + b) = s_lss φ a b h) ∧ S 16 a = s_lim φ a h ∧ S 17 a = s_he φ a h
theorem s_lkN_15 {S : q_S} {φ : Int → Int} {h n b v : Int} (hr : φ 0 ≤ 6) (b0 : 0 ≤ b) (H : s_lkN S φ h n) : s_lkN (q_up S 15 (n * 6 + b) v) φ h n := fun a a0 a1 => by
  have q := H a a0 a1
  refine ⟨fun b' b0' b1' => ?_, ?_, ?_⟩
  · rw [q_up_nz (by omega)]; exact q.1 b' b0' b1'
  · rw [q_up_ne (by decide)]; exact q.2.1
  · rw [q_up_ne (by decide)]; exact q.2.2
theorem s_lkN_s {S : q_S} {φ : Int → Int} {h n : Int} (H : s_lkN S φ h n) (HB : ∀ b, 0 ≤ b → b < φ 0 → S 15 (6 * n + b) = s_lss φ n b h) : s_lkN (q_up (q_up S 16 n (s_lim φ n h)) 17 n (s_he φ n h)) φ h (n + 1) := fun a a0 a1 => by
  rcases (show a < n ∨ a = n by omega) with g | g
  · have q := H a a0 g
    refine ⟨fun b' b0' b1' => ?_, ?_, ?_⟩
    · rw [q_up_ne (by decide), q_up_ne (by decide)]; exact q.1 b' b0' b1'
    · rw [q_up_nz (by omega), q_up_nz (by omega)]; exact q.2.1
    · rw [q_up_nz (by omega), q_up_ne (by decide)]; exact q.2.2
  · subst g
    refine ⟨fun b' b0' b1' => ?_, ?_, ?_⟩
    · rw [q_up_ne (by decide), q_up_ne (by decide)]; exact HB b' b0' b1'
    · rw [q_up_ne (by decide), q_up_eq]
    · rw [q_up_eq]
theorem s_lkN_lk {S : q_S} {φ : Int → Int} {h : Int} (hH : S 14 1 = h) (H : s_lkN S φ h (φ 0)) : s_lk S φ h := ⟨hH, fun a b a0 a1 b0 b1 => (H a a0 a1).1 b b0 b1, fun a a0 a1 => (H a a0 a1).2⟩
theorem s_si_lss {φ : Int → Int} (ok : s_ok φ) {a b h : Int} (a0 : 0 ≤ a) (a1 : a < 6) : max 0 (s_he φ a h - s_lss φ a b h) = s_si φ a b h := by
  have t := s_tio_b ok h a0 a1
  exact (s_sh_lss ok a0 a1 t.1 t.2).symm
theorem s_far_d {φ : Int → Int} {a r h : Int} (q : 0 < s_up φ r h a) : s_far φ a r = s_dist φ a r h := by
  have hd : 0 < s_dist φ a r h := by
    unfold s_up at q
    split at q
    · omega
    · unfold s_si s_sh at q
      split at q
      · omega
      · omega
  unfold s_dist at hd ⊢
  unfold s_far
  omega
