/-! what the class' cells hold of a state A (the reference's cells) -/
def s_pz (φ : Int → Int) : Prop := (∀ r, φ 0 ≤ r → r < 6 → s_pt φ r 3 = 0) ∧ (∀ i, 0 ≤ i → i < φ 3 → s_as φ i 0 < φ 0) ∧ ∀ i, 0 ≤ i → i < φ 4 → s_bd φ i 0 < φ 0 ∧ s_bd φ i 4 < φ 0
def s_st (S : q_S) (f : Nat) (φ : Int → Int) : Prop := s_F S f φ ∧ s_ok φ ∧ s_pz φ
def s_hi (A : q_S) (i : Int) : Int → Int := fun z => A 152 (489 * i + z)
def s_sl (A : q_S) (k : Int) : Int → Int := fun z => A 153 (489 * k + z)
def s_sb (k : Int) : Nat := if k = 0 then 123 else 136
theorem s_pz_cg {φ ψ : Int → Int} (ok : s_ok φ) (h : ∀ z, 0 ≤ z → z < 489 → ψ z = φ z) (p : s_pz φ) : s_pz ψ := by
  have c0 := ok.1
  have c3 := ok.2.2.1
  have c4 := ok.2.2.2.1
  unfold s_pz s_pt s_as s_bd at p ⊢
  rw [h 0 (by decide) (by decide), h 3 (by decide) (by decide), h 4 (by decide) (by decide)]
  refine ⟨fun r x y => ?_, fun i x y => ?_, fun i x y => ?_⟩
  · rw [h _ (by omega) (by omega)]; exact p.1 r x y
  · rw [h _ (by omega) (by omega)]; exact p.2.1 i x y
  · rw [h _ (by omega) (by omega), h (439 + 5 * i + 4) (by omega) (by omega)]; exact p.2.2 i x y
theorem s_ok_cg {φ ψ : Int → Int} (h : ∀ z, 0 ≤ z → z < 489 → ψ z = φ z) (ok : s_ok φ) : s_ok ψ := by
  rw [s_ok_iff] at ok ⊢
  obtain ⟨k1, k2, k3, k4, k5, k6, k7, k8, k9⟩ := ok
  refine ⟨?_, ?_, ?_, ?_, fun h' x y => ?_, fun r x y => ?_, fun a b h' x1 x2 x3 x4 x5 x6 => ?_, fun i x y => ?_, fun i x y => ?_⟩
  · rw [h _ (by omega) (by omega)]; exact k1
  · rw [h _ (by omega) (by omega)]; exact k2
  · rw [h _ (by omega) (by omega)]; exact k3
  · rw [h _ (by omega) (by omega)]; exact k4
  · rw [h _ (by omega) (by omega)]; exact k5 h' x y
  · rw [h _ (by omega) (by omega), h (15 + 4 * r + 1) (by omega) (by omega), h (15 + 4 * r + 2) (by omega) (by omega)]; exact k6 r x y
  · rw [h _ (by omega) (by omega)]; exact k7 a b h' x1 x2 x3 x4 x5 x6
  · rw [h _ (by omega) (by omega), h (399 + 4 * i + 1) (by omega) (by omega), h (399 + 4 * i + 2) (by omega) (by omega), h (399 + 4 * i + 3) (by omega) (by omega)]; exact k8 i x y
  · rw [h _ (by omega) (by omega), h (439 + 5 * i + 1) (by omega) (by omega), h (439 + 5 * i + 2) (by omega) (by omega), h (439 + 5 * i + 3) (by omega) (by omega), h (439 + 5 * i + 4) (by omega) (by omega)]; exact k9 i x y
theorem s_F_cg {S : q_S} {f : Nat} {φ ψ : Int → Int} (h : ∀ z, 0 ≤ z → z < 489 → ψ z = φ z) (a3 : φ 3 ≤ 10) (a4 : φ 4 ≤ 10) (F : s_F S f φ) : s_F S f ψ := by
  obtain ⟨k0, k6, kt, kr, kw, kj, kn, km, ka, kb, kc⟩ := F
  unfold s_F
  rw [h 0 (by decide) (by decide), h 1 (by decide) (by decide), h 2 (by decide) (by decide), h 3 (by decide) (by decide), h 4 (by decide) (by decide)]
  refine ⟨k0, k6, kt, fun r x y => ?_, fun h' x y => ?_, fun j x y => ?_, kn, km, fun i p x y x2 y2 => ?_, kb, fun i p x y x2 y2 => ?_⟩
  · have q := kr r x y
    unfold s_pt at q ⊢
    rw [h _ (by omega) (by omega), h (15 + 4 * r + 1) (by omega) (by omega), h (15 + 4 * r + 2) (by omega) (by omega), h (15 + 4 * r + 3) (by omega) (by omega)]; exact q
  · rw [h _ (by omega) (by omega)]; exact kw h' x y
  · rw [h _ (by omega) (by omega)]; exact kj j x y
  · have q := ka i p x y x2 y2
    unfold s_as at q ⊢
    rw [h _ (by omega) (by omega)]; exact q
  · have q := kc i p x y x2 y2
    unfold s_bd at q ⊢
    rw [h _ (by omega) (by omega)]; exact q
theorem s_st_cg {S : q_S} {f : Nat} {φ ψ : Int → Int} (H : s_st S f φ) (h : ∀ z, 0 ≤ z → z < 489 → ψ z = φ z) : s_st S f ψ :=
  ⟨s_F_cg h H.2.1.2.2.1.2 H.2.1.2.2.2.1.2 H.1, s_ok_cg h H.2.1, s_pz_cg H.2.1 h H.2.2⟩
theorem s_st_o {S S2 : q_S} {f : Nat} {φ : Int → Int} (H : s_st S f φ) (h : ∀ a, f ≤ a → a ≤ f + 11 → S2 a = S a) : s_st S2 f φ := ⟨s_F_o H.1 (fun a h1 h2 _ => h a h1 h2), H.2⟩
theorem s_st_cp {S : q_S} {f g : Nat} {φ : Int → Int} (d : f + 12 < g ∨ g + 12 < f) (H : s_st S g φ) : s_st (s_cpF S f g) f φ := ⟨s_cpF_F d H.2.1.2.2.1.2 H.2.1.2.2.2.1.2 H.1, H.2⟩
def s_Jc (S A : q_S) : Prop := (s_st S 1 (A 151)) ∧ (S 29 0 = A 150 2) ∧ (0 ≤ A 150 2 ∧ A 150 2 ≤ 6) ∧ (s_hs S) ∧ (∀ i, 0 ≤ i → i < A 150 2 → s_st S (S 30 i).toNat (s_hi A i)) ∧ (∀ k, 0 ≤ k → k ≤ 1 → S 149 k = A 154 k ∧ (A 154 k = 0 ∨ A 154 k = 1) ∧ S 122 k = s_sb k) ∧ (∀ k, 0 ≤ k → k ≤ 1 → A 154 k = 1 → s_st S (s_sb k) (s_sl A k)) ∧ (S 25 1 = A 150 6 ∧ (0 ≤ A 150 6 ∧ A 150 6 ≤ 80)) ∧ (∀ z, 0 ≤ z → z < A 150 6 → S 26 z = A 155 z ∧ 33 ≤ A 155 z ∧ A 155 z ≤ 126)
theorem s_Jc.F {S A : q_S} (J : s_Jc S A) : s_st S 1 (A 151) := J.1
theorem s_Jc.n {S A : q_S} (J : s_Jc S A) : S 29 0 = A 150 2 := J.2.1
theorem s_Jc.nb {S A : q_S} (J : s_Jc S A) : 0 ≤ A 150 2 ∧ A 150 2 ≤ 6 := J.2.2.1
theorem s_Jc.hs {S A : q_S} (J : s_Jc S A) : s_hs S := J.2.2.2.1
theorem s_Jc.h {S A : q_S} (J : s_Jc S A) : ∀ i, 0 ≤ i → i < A 150 2 → s_st S (S 30 i).toNat (s_hi A i) := J.2.2.2.2.1
theorem s_Jc.s1 {S A : q_S} (J : s_Jc S A) : ∀ k, 0 ≤ k → k ≤ 1 → S 149 k = A 154 k ∧ (A 154 k = 0 ∨ A 154 k = 1) ∧ S 122 k = s_sb k := J.2.2.2.2.2.1
theorem s_Jc.s2 {S A : q_S} (J : s_Jc S A) : ∀ k, 0 ≤ k → k ≤ 1 → A 154 k = 1 → s_st S (s_sb k) (s_sl A k) := J.2.2.2.2.2.2.1
theorem s_Jc.p {S A : q_S} (J : s_Jc S A) : S 25 1 = A 150 6 ∧ (0 ≤ A 150 6 ∧ A 150 6 ≤ 80) := J.2.2.2.2.2.2.2.1
theorem s_Jc.ps {S A : q_S} (J : s_Jc S A) : ∀ z, 0 ≤ z → z < A 150 6 → S 26 z = A 155 z ∧ 33 ≤ A 155 z ∧ A 155 z ≤ 126 := J.2.2.2.2.2.2.2.2
def s_offX (S S2 : q_S) : Prop := ∀ a, (a = 25 ∨ a = 26 ∨ 29 ≤ a) → S2 a = S a
def s_offM (S S2 : q_S) : Prop := ∀ a, 150 ≤ a → S2 a = S a
theorem s_offX_r {S : q_S} : s_offX S S := fun _ _ => rfl
theorem s_offX_t {S S2 S3 : q_S} (h : s_offX S S2) (g : s_offX S2 S3) : s_offX S S3 := fun a ha => (g a ha).trans (h a ha)
theorem s_offX_F {S S2 : q_S} (h : s_offF S S2) : s_offX S S2 := fun a ha => h a (by omega)
theorem s_offX_L {S S2 : q_S} (h : s_offL S S2) : s_offX S S2 := fun a ha => h a (by omega)
theorem s_offX_K {S S2 : q_S} (h : s_offK S S2) : s_offX S S2 := fun a ha => h a (by omega)
theorem s_offX_u {S S2 : q_S} {c : Nat} {z v : Int} (h : s_offX S S2) (h1 : c ≠ 25) (h2 : c ≠ 26) (h3 : c < 29) : s_offX S (q_up S2 c z v) := fun a ha => (q_up_ne (by omega)).trans (h a ha)
theorem s_offM_X {S S2 : q_S} (h : s_offX S S2) : s_offM S S2 := fun a ha => h a (by omega)
theorem s_offM_t {S S2 S3 : q_S} (h : s_offM S S2) (g : s_offM S2 S3) : s_offM S S3 := fun a ha => (g a ha).trans (h a ha)
theorem s_sb_b (k : Int) : 123 ≤ s_sb k ∧ s_sb k ≤ 136 := by unfold s_sb; split <;> omega
theorem s_Jc.f {S A : q_S} (J : s_Jc S A) {i : Int} (h0 : 0 ≤ i) (h1 : i < 7) : S 30 i = ((S 30 i).toNat : Int) ∧ s_hF (S 30 i).toNat := s_hs_f J.hs h0 h1
theorem s_Jc.d {S A : q_S} (J : s_Jc S A) {i j : Int} (h0 : 0 ≤ i) (h1 : i < 7) (g0 : 0 ≤ j) (g1 : j < 7) (n : i ≠ j) : (S 30 i).toNat + 12 < (S 30 j).toNat ∨ (S 30 j).toNat + 12 < (S 30 i).toNat := by
  have a := J.f h0 h1
  have b := J.f g0 g1
  refine s_hF_d a.2 b.2 (fun e => n (J.hs.2 i j h0 h1 g0 g1 ?_))
  rw [a.1, b.1, e]
theorem s_Jc.o {S S2 A : q_S} (J : s_Jc S A) (F : s_F S2 1 (A 151)) (o : s_offX S S2) : s_Jc S2 A := by
  have e30 := o 30 (by omega)
  refine ⟨⟨F, J.F.2⟩, by rw [o 29 (by omega)]; exact J.n, J.nb, by have h := J.hs; unfold s_hs at h ⊢; rw [e30]; exact h, fun i i0 i1 => ?_, fun k k0 k1 => ?_, fun k k0 k1 hk => ?_, by rw [o 25 (by omega)]; exact J.p, fun z z0 z1 => by rw [o 26 (by omega)]; exact J.ps z z0 z1⟩
  · rw [e30]
    have q := s_hF_i (J.f i0 (show i < 7 by have := J.nb; omega)).2
    exact s_st_o (J.h i i0 i1) (fun a h1 h2 => o a (by omega))
  · rw [o 149 (by omega), o 122 (by omega)]; exact J.s1 k k0 k1
  · have q := s_sb_b k
    exact s_st_o (J.s2 k k0 k1 hk) (fun a h1 h2 => o a (by omega))
def s_mk (S : q_S) : q_S := s_cpF S (S 30 (S 29 0)).toNat 1
theorem s_mk_o {S A : q_S} (J : s_Jc S A) {a : Nat} (h : a < 31 ∨ 120 < a) : s_mk S a = S a := by
  have q := s_hF_i (J.f (i := S 29 0) (by have := J.n; have := J.nb; omega) (by have := J.n; have := J.nb; omega)).2
  exact s_cpF_o (by omega)
theorem s_mk_F {S A : q_S} (J : s_Jc S A) : s_F (s_mk S) 1 (A 151) := s_F_o J.F.1 (fun a h1 h2 _ => s_mk_o J (by omega))
theorem s_mk_n {S S2 A : q_S} (J : s_Jc S A) (o : s_offX (s_mk S) S2) : S2 29 0 = A 150 2 ∧ (0 ≤ S2 29 0 ∧ S2 29 0 ≤ 6) ∧ s_hs S2 := by
  have e29 : S2 29 = S 29 := (o 29 (by omega)).trans (s_mk_o J (by omega))
  have e30 : S2 30 = S 30 := (o 30 (by omega)).trans (s_mk_o J (by omega))
  have n1 := J.n
  have n2 := J.nb
  refine ⟨by rw [e29]; exact n1, by rw [e29]; omega, ?_⟩
  have h := J.hs
  unfold s_hs at h ⊢
  rw [e30]
  exact h
theorem s_rec_hi {A : q_S} (n0 : 0 ≤ A 150 2) (n6 : A 150 2 < 6) : s_rec A 150 2 = A 150 2 + 1 ∧ (∀ i z, 0 ≤ i → i < A 150 2 → 0 ≤ z → z < 489 → s_hi (s_rec A) i z = s_hi A i z) ∧ ∀ z, 0 ≤ z → z < 489 → s_hi (s_rec A) (A 150 2) z = A 151 z := by
  unfold s_hi s_rec
  rw [if_neg (by omega)]
  refine ⟨q_up_eq, fun i z i0 i1 z0 z1 => ?_, fun z z0 z1 => ?_⟩
  · rw [q_up_ne (by decide), q_cp_lo (by omega)]
  · rw [q_up_ne (by decide), q_cp_in (by omega) (by omega), show (0 : Int) + (489 * A 150 2 + z - A 150 2 * 489) = z by omega]
theorem s_rec_h6 {A : q_S} (n6 : A 150 2 = 6) : s_rec A 150 2 = 6 ∧ (∀ i z, 0 ≤ i → i < 5 → 0 ≤ z → z < 489 → s_hi (s_rec A) i z = s_hi A (i + 1) z) ∧ ∀ z, 0 ≤ z → z < 489 → s_hi (s_rec A) 5 z = A 151 z := by
  unfold s_hi s_rec
  rw [if_pos n6]
  refine ⟨q_up_eq, fun i z i0 i1 z0 z1 => ?_, fun z z0 z1 => ?_⟩
  · rw [q_up_ne (by decide), q_cp_lo (by omega), q_up_ne (by decide), q_cp_in (by omega) (by omega)]
    exact congrArg _ (by omega)
  · rw [q_up_ne (by decide), q_cp_in (by omega) (by omega), q_up_ne (by decide), q_cp_ne (by decide)]
    exact congrArg _ (by omega)
noncomputable def s_aft (A : q_S) (ψ : Int → Int) (v : Int) : q_S := if v < 0 then A else q_w1 (s_rec A) ψ
theorem s_kpS_o {S : q_S} {v : Int} {a : Nat} (h : a ≠ 29) (h2 : a ≠ 30) : s_kpS S v a = S a := by
  unfold s_kpS
  split
  · rfl
  · split
    · exact q_up_ne h
    · funext z
      unfold s_drO
      rw [if_neg (by omega), if_neg (by omega)]
theorem s_J_keep {S S2 A : q_S} {ψ : Int → Int} {v : Int} (J : s_Jc S A) (F : s_F S2 1 ψ) (o : s_offX (s_mk S) S2) (h0 : v < 0 → ψ = A 151) (h1 : 0 ≤ v → s_ok ψ ∧ s_pz ψ) : s_Jc (s_kpS S2 v) (s_aft A ψ v) ∧ s_offM S (s_kpS S2 v) := by
  have n1 := J.n
  have nb := J.nb
  have fn := J.f (i := S 29 0) (by omega) (by omega)
  have gi := s_hF_i fn.2
  have e30 : S2 30 = S 30 := (o 30 (by omega)).trans (s_mk_o J (by omega))
  have e29 : S2 29 = S 29 := (o 29 (by omega)).trans (s_mk_o J (by omega))
  have fi : ∀ i, 0 ≤ i → i < 7 → i ≠ S 29 0 → ∀ χ, s_st S (S 30 i).toNat χ → s_st S2 (S 30 i).toNat χ := fun i i0 i1 hn χ H => by
    have d := J.d i0 i1 (j := S 29 0) (by omega) (by omega) hn
    have q := s_hF_i (J.f i0 i1).2
    exact s_st_o H (fun a h1 h2 => (o a (by omega)).trans (s_cpF_o (by omega)))
  have fg : s_st S2 (S 30 (S 29 0)).toNat (A 151) := s_st_o (s_st_cp (by omega) J.F) (fun a h1 h2 => o a (by omega))
  have sl : ∀ k χ, s_st S (s_sb k) χ → s_st S2 (s_sb k) χ := fun k χ H => by
    have q := s_sb_b k
    exact s_st_o H (fun a h1 h2 => (o a (by omega)).trans (s_mk_o J (by omega)))
  have hs2 := (s_mk_n J o).2.2
  have oo : ∀ a : Nat, (a = 25 ∨ a = 26 ∨ 120 < a) → S2 a = S a := fun a ha => (o a (by omega)).trans (s_mk_o J (by omega))
  refine ⟨?_, fun a ha => (s_kpS_o (by omega) (by omega)).trans (oo a (by omega))⟩
  by_cases hv : v < 0
  · unfold s_kpS s_aft
    rw [if_pos hv, if_pos hv]
    have hF := F
    rw [h0 hv] at hF
    refine ⟨⟨hF, J.F.2⟩, by rw [e29]; exact n1, nb, hs2, fun i i0 i1 => ?_, fun k k0 k1 => ?_, fun k k0 k1 hk => sl k _ (J.s2 k k0 k1 hk), by rw [oo 25 (by omega)]; exact J.p, fun z z0 z1 => by rw [oo 26 (by omega)]; exact J.ps z z0 z1⟩
    · rw [e30]; exact fi i i0 (by omega) (by omega) _ (J.h i i0 i1)
    · rw [oo 149 (by omega), oo 122 (by omega)]; exact J.s1 k k0 k1
  · have hok := h1 (by omega)
    have e6 : s_aft A ψ v 150 6 = A 150 6 := by unfold s_aft; rw [if_neg hv, q_w1_n (by decide), s_rec_f (by decide)]
    have e2 : s_aft A ψ v 150 2 = s_rec A 150 2 := by unfold s_aft; rw [if_neg hv, q_w1_n (by decide)]
    have e51 : s_aft A ψ v 151 = ψ := by unfold s_aft; rw [if_neg hv, q_w1_s]
    have ehi : ∀ i, s_hi (s_aft A ψ v) i = s_hi (s_rec A) i := fun i => by unfold s_hi s_aft; rw [if_neg hv, q_w1_n (by decide)]
    have eot : ∀ a : Nat, a ≠ 150 → a ≠ 151 → a ≠ 152 → s_aft A ψ v a = A a := fun a x1 x2 x3 => by unfold s_aft; rw [if_neg hv, q_w1_n x2, s_rec_ne x1 x3]
    have esl : ∀ k, s_sl (s_aft A ψ v) k = s_sl A k := fun k => by unfold s_sl; rw [eot 153 (by decide) (by decide) (by decide)]
    have kf : ∀ a : Nat, a ≠ 29 → a ≠ 30 → s_kpS S2 v a = S2 a := fun a x y => s_kpS_o x y
    have st : ∀ f χ, 30 < f ∨ f = 1 → s_st S2 f χ → s_st (s_kpS S2 v) f χ := fun f χ hf H => s_st_o H (fun a x y => kf a (by omega) (by omega))
    have big : (s_kpS S2 v 29 0 = s_rec A 150 2 ∧ (0 ≤ s_rec A 150 2 ∧ s_rec A 150 2 ≤ 6)) ∧ s_hs (s_kpS S2 v) ∧ ∀ i, 0 ≤ i → i < s_rec A 150 2 → s_st (s_kpS S2 v) (s_kpS S2 v 30 i).toNat (s_hi (s_rec A) i) := by
      by_cases h6 : S 29 0 < 6
      · have r := s_rec_hi (A := A) nb.1 (by omega)
        have ek : s_kpS S2 v = q_up S2 29 0 (S2 29 0 + 1) := by unfold s_kpS; rw [if_neg hv, if_pos (by rw [e29]; exact h6)]
        have ek30 : s_kpS S2 v 30 = S 30 := by rw [ek, q_up_ne (by decide)]; exact e30
        refine ⟨⟨by rw [ek, q_up_eq, e29, n1, r.1], by rw [r.1]; omega⟩, by have h := J.hs; unfold s_hs at h ⊢; rw [ek30]; exact h, fun i i0 i1 => ?_⟩
        rw [r.1] at i1
        rw [ek30]
        have q := s_hF_i (J.f i0 (show i < 7 by omega)).2
        refine st _ _ (Or.inl (by omega)) ?_
        rcases (show i < A 150 2 ∨ i = A 150 2 by omega) with g | g
        · exact s_st_cg (fi i i0 (by omega) (by omega) _ (J.h i i0 g)) (fun z z0 z1 => r.2.1 i z i0 g z0 z1)
        · have fg2 := fg
          rw [n1, ← g] at fg2
          exact s_st_cg fg2 (fun z z0 z1 => by rw [g]; exact r.2.2 z z0 z1)
      · have e6 : A 150 2 = 6 := by omega
        have r := s_rec_h6 e6
        have ek : s_kpS S2 v = s_drO S2 := by unfold s_kpS; rw [if_neg hv, if_neg (by rw [e29]; exact h6)]
        have e1 : ∀ i, 0 ≤ i → i < 6 → s_kpS S2 v 30 i = S 30 (i + 1) := fun i i0 i1 => by rw [ek]; unfold s_drO; rw [if_pos ⟨rfl, i0, i1⟩, e30]
        have e2 : s_kpS S2 v 30 6 = S 30 0 := by rw [ek]; unfold s_drO; rw [if_neg (by omega), if_pos ⟨rfl, rfl⟩, e30]
        have ek29 : s_kpS S2 v 29 0 = 6 := by
          rw [ek]
          show (if (29 : Nat) = 30 ∧ (0 : Int) ≤ 0 ∧ (0 : Int) < 6 then S2 30 (0 + 1) else if (29 : Nat) = 30 ∧ (0 : Int) = 6 then S2 30 0 else S2 29 0) = 6
          rw [if_neg (by omega), if_neg (by omega), e29]; omega
        have ej : ∀ i, 0 ≤ i → i < 7 → s_kpS S2 v 30 i = S 30 (if i < 6 then i + 1 else 0) := fun i i0 i1 => by
          by_cases g : i < 6
          · rw [if_pos g]; exact e1 i i0 g
          · rw [if_neg g, show i = 6 by omega]; exact e2
        refine ⟨⟨by rw [ek29, r.1], by rw [r.1]; decide⟩, ⟨fun i i0 i1 => ?_, fun i j i0 i1 j0 j1 e => ?_⟩, fun i i0 i1 => ?_⟩
        · rw [ej i i0 i1]; exact J.hs.1 _ (by split <;> omega) (by split <;> omega)
        · rw [ej i i0 i1, ej j j0 j1] at e
          have q := J.hs.2 _ _ (by split <;> omega) (by split <;> omega) (by split <;> omega) (by split <;> omega) e
          split at q <;> split at q <;> omega
        · rw [r.1] at i1
          rw [e1 i i0 i1]
          have q := s_hF_i (J.f (i := i + 1) (by omega) (by omega)).2
          refine st _ _ (Or.inl (by omega)) ?_
          rcases (show i < 5 ∨ i = 5 by omega) with g | g
          · exact s_st_cg (fi (i + 1) (by omega) (by omega) (by omega) _ (J.h (i + 1) (by omega) (by omega))) (fun z z0 z1 => r.2.1 i z i0 g z0 z1)
          · have fg2 := fg
            rw [show S 29 0 = i + 1 by omega] at fg2
            exact s_st_cg fg2 (fun z z0 z1 => by rw [g]; exact r.2.2 z z0 z1)
    refine ⟨?_, ?_, ?_, big.2.1, fun i i0 i1 => ?_, fun k k0 k1 => ?_, fun k k0 k1 hk => ?_, ?_, fun z z0 z1 => ?_⟩
    · rw [e51]; exact st 1 _ (Or.inr rfl) ⟨F, hok⟩
    · rw [e2]; exact big.1.1
    · rw [e2]; exact big.1.2
    · rw [ehi]; rw [e2] at i1; exact big.2.2 i i0 i1
    · rw [kf 149 (by decide) (by decide), kf 122 (by decide) (by decide), eot 154 (by decide) (by decide) (by decide), oo 149 (by omega), oo 122 (by omega)]; exact J.s1 k k0 k1
    · rw [eot 154 (by decide) (by decide) (by decide)] at hk
      rw [esl]
      have q := s_sb_b k
      exact st _ _ (Or.inl (by omega)) (sl k _ (J.s2 k k0 k1 hk))
    · rw [e6, kf 25 (by decide) (by decide), oo 25 (by omega)]; exact J.p
    · rw [e6] at z1
      rw [kf 26 (by decide) (by decide), eot 155 (by decide) (by decide) (by decide), oo 26 (by omega)]; exact J.ps z z0 z1
