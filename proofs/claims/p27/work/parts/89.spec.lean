/-! the field after a match -/
theorem w_fA {φ ps : Int → Int} {su : Int} (ok : s_ok ps) (hm : s_mtP (φ, 0) (φ 4).toNat = (ps, su)) (e4 : ps 4 = φ 4) :
    s_matA φ 3 = w_ct (fun j => s_as ps j 2) (ps 3) ∧ s_matA φ 4 = w_ct (fun j => s_bd ps j 2) (ps 4) ∧ (∀ j, 0 ≤ j → j < ps 3 → 0 < s_as ps j 2 → ∀ p, 0 ≤ p → p < 4 → s_matA φ (399 + 4 * w_ct (fun j => s_as ps j 2) j + p) = ps (399 + 4 * j + p)) ∧
    (∀ j, 0 ≤ j → j < ps 4 → 0 < s_bd ps j 2 → ∀ p, 0 ≤ p → p < 5 → s_matA φ (439 + 5 * w_ct (fun j => s_bd ps j 2) j + p) = ps (439 + 5 * j + p)) ∧ (∀ z, z ≠ 3 → z ≠ 4 → z < 399 → s_matA φ z = ps z) ∧ s_matV φ = su := by
  have c3 := ok.2.2.1
  have c4 := ok.2.2.2.1
  have eV : s_matV φ = su := by unfold s_matV; rw [hm]
  have eB : s_matB φ = s_rmB (φ 4).toNat ps := by unfold s_matB; rw [hm]
  have eA : s_matA φ = s_rmA (s_matB φ 3).toNat (s_matB φ) := rfl
  rw [eA]
  generalize hB : s_matB φ = B
  rw [hB] at eB
  obtain ⟨b1, b2, b3, b4⟩ := w_rmB (φ 4).toNat ps (by omega) c4.2 (fun j j0 j1 => (s_bd_b ok j0 (by omega)).2.2.1.1)
  rw [← eB] at b1 b2 b3 b4
  have n4 : (((φ 4).toNat : Nat) : Int) = ps 4 := by omega
  rw [n4] at b1 b2
  have B3 : B 3 = ps 3 := b4 3 (by decide) (Or.inl (by decide))
  have uA : ∀ j, 0 ≤ j → j < ps 3 → s_as B j 2 = s_as ps j 2 := fun j j0 j1 => b4 _ (by omega) (Or.inl (by omega))
  obtain ⟨a1, a2, a3, a4⟩ := w_rmA (B 3).toNat B (by omega) (by omega) (fun j j0 j1 => by
    rw [uA j j0 (by omega)]
    exact (s_as_b ok j0 (by omega)).2.2.1.1)
  have n3 : (((B 3).toNat : Nat) : Int) = ps 3 := by omega
  rw [n3] at a1 a2
  have ct : ∀ k, k ≤ ps 3 → w_ct (fun j => s_as B j 2) k = w_ct (fun j => s_as ps j 2) k := fun k k1 => w_ct_cg (fun i i0 i1 => uA i i0 (by omega))
  refine ⟨?_, ?_, fun j j0 j1 hj p p0 p1 => ?_, fun j j0 j1 hj p p0 p1 => ?_, fun z z3 z4 z1 => ?_, eV⟩
  · rw [a1, ct _ (Int.le_refl _)]; omega
  · rw [a4 4 (by decide) (Or.inl (by decide)), b1]; omega
  · have q := a2 j j0 j1 (by rw [uA j j0 j1]; exact hj) p p0 p1
    rw [ct j (by omega)] at q
    rw [q]
    exact b4 _ (by omega) (Or.inl (by omega))
  · have cb := w_ct_b (u := fun j => s_bd ps j 2) j0
    rw [a4 _ (by omega) (Or.inr (by omega))]
    exact b2 j j0 j1 hj p p0 p1
  · rw [a4 z z3 (Or.inl z1)]
    exact b4 z z4 (Or.inl (by omega))
theorem w_fin {S S2 S3 : q_S} {φ ps : Int → Int} {su kA kB : Int} (H : w_R S ps) (ok : s_ok ps) (hm : s_mtP (φ, 0) (φ 4).toNat = (ps, su)) (e4 : ps 4 = φ 4) (cA : w_cA S S2 (ps 3) kA) (cB : w_cB (q_up S2 150 0 kA) S3 (ps 4) kB) :
    w_R (q_up (q_up S3 150 1 kB) 150 2 (s_wr (ps 2 + su))) (s_matP φ) := by
  have c3 := ok.2.2.1
  have c4 := ok.2.2.2.1
  obtain ⟨f3, f4, fa, fb, fz, fV⟩ := w_fA ok hm e4
  have P : ∀ z, z ≠ 2 → s_matP φ z = s_matA φ z := fun z h => s_aw_ne h
  have P2 : s_matP φ 2 = s_wr (ps 2 + su) := by
    show s_aw (s_matA φ) 2 (s_matV φ) 2 = _
    rw [s_aw_eq, fV, fz 2 (by decide) (by decide) (by decide)]
  have Pz : ∀ z, z ≠ 2 → z ≠ 3 → z ≠ 4 → z < 399 → s_matP φ z = ps z := fun z z2 z3 z4 z1 => (P z z2).trans (fz z z3 z4 z1)
  generalize hX : q_up (q_up S3 150 1 kB) 150 2 (s_wr (ps 2 + su)) = X
  have X3 : ∀ a : Nat, a ≠ 150 → X a = S3 a := fun a h => by rw [← hX, q_up_ne h, q_up_ne h]
  have XS : ∀ a : Nat, a ≠ 150 → a ≠ 154 → a ≠ 155 → X a = S a := fun a h1 h2 h3 => by rw [X3 a h1, cB.2.2.2 a h3, q_up_ne h1, cA.2.2.2 a h2]
  have X4 : X 154 = S2 154 := by rw [X3 154 (by decide), cB.2.2.2 154 (by decide), q_up_ne (by decide)]
  have Y5 : ∀ z, q_up S2 150 0 kA 155 z = S 155 z := fun z => by rw [q_up_ne (by decide), cA.2.2.2 155 (by decide)]
  have hA : ∀ k, k ≤ ps 3 → w_ct (fun j => S 154 (4 * j + 2)) k = w_ct (fun j => s_as ps j 2) k := fun k k1 => w_ct_cg (fun i i0 i1 => w_as2 H i0 (by omega))
  have hB : ∀ k, k ≤ ps 4 → w_ct (fun j => q_up S2 150 0 kA 155 (5 * j + 2)) k = w_ct (fun j => s_bd ps j 2) k := fun k k1 => w_ct_cg (fun i i0 i1 => (Y5 _).trans (w_bd2 H i0 (by omega)))
  obtain ⟨g0, g1, g2, g3, g4, g5, g6, g7⟩ := H
  refine ⟨by rw [Pz 0 (by decide) (by decide) (by decide) (by decide)]; exact g0, ⟨?_, ?_, ?_⟩, fun r p r0 r1 p0 p1 => ?_, fun i a b i0 i1 a0 a1 b0 b1 => ?_, ?_, fun k k0 k1 => ?_, fun k k0 k1 => ?_, fun r r0 r1 => ?_⟩
  · rw [P 3 (by decide), f3, ← hX, q_up_nz (by decide), q_up_nz (by decide), cB.2.2.2 150 (by decide), q_up_eq, cA.1]
    exact hA _ (Int.le_refl _)
  · rw [P 4 (by decide), f4, ← hX, q_up_nz (by decide), q_up_eq, cB.1]
    exact hB _ (Int.le_refl _)
  · rw [P2, ← hX, q_up_eq]
  · rw [XS 151 (by decide) (by decide) (by decide)]
    unfold s_pt
    rw [Pz _ (by omega) (by omega) (by omega) (by omega)]
    exact g2 r p r0 r1 p0 p1
  · have wb := w_h_b i
    rw [XS 152 (by decide) (by decide) (by decide)]
    unfold s_rt
    rw [Pz _ (by omega) (by omega) (by omega) (by omega)]
    exact g3 i a b i0 i1 a0 a1 b0 b1
  · rw [XS 153 (by decide) (by decide) (by decide), Pz 1 (by decide) (by decide) (by decide) (by decide)]
    refine ⟨g4.1, fun i i0 i1 => ?_⟩
    have wb := w_h_b i
    rw [Pz _ (by omega) (by omega) (by omega) (by omega)]
    exact g4.2 i i0 i1
  · rw [P 3 (by decide), f3] at k1
    obtain ⟨j, j0, j1, hj, hk⟩ := w_ct_su c3.1 k0 k1
    have hS : ∀ p, 0 ≤ p → p < 4 → X 154 (4 * k + p) = S 154 (4 * j + p) := fun p p0 p1 => by
      have q := cA.2.1 j j0 j1 (by rw [(g5 j j0 j1).2.2.1]; exact hj) p p0 p1
      rw [hA j (by omega), hk] at q
      rw [X4]; exact q
    have hF : ∀ p, 0 ≤ p → p < 4 → s_as (s_matP φ) k p = s_as ps j p := fun p p0 p1 => by
      have q := fa j j0 j1 hj p p0 p1
      rw [hk] at q
      exact (P _ (by omega)).trans q
    have g := g5 j j0 j1
    have s0 := hS 0 (by decide) (by decide)
    rw [Int.add_zero, Int.add_zero] at s0
    unfold w_A at g ⊢
    rw [s0, hS 1 (by decide) (by decide), hS 2 (by decide) (by decide), hS 3 (by decide) (by decide), hF 0 (by decide) (by decide), hF 1 (by decide) (by decide), hF 2 (by decide) (by decide), hF 3 (by decide) (by decide)]
    exact g
  · rw [P 4 (by decide), f4] at k1
    obtain ⟨j, j0, j1, hj, hk⟩ := w_ct_su c4.1 k0 k1
    have hS : ∀ p, 0 ≤ p → p < 5 → X 155 (5 * k + p) = S 155 (5 * j + p) := fun p p0 p1 => by
      have q := cB.2.1 j j0 j1 (by rw [Y5, (g6 j j0 j1).2.2.1]; exact hj) p p0 p1
      rw [hB j (by omega), hk, Y5] at q
      rw [X3 155 (by decide)]; exact q
    have hF : ∀ p, 0 ≤ p → p < 5 → s_bd (s_matP φ) k p = s_bd ps j p := fun p p0 p1 => by
      have q := fb j j0 j1 hj p p0 p1
      rw [hk] at q
      exact (P _ (by omega)).trans q
    have g := g6 j j0 j1
    have s0 := hS 0 (by decide) (by decide)
    rw [Int.add_zero, Int.add_zero] at s0
    unfold w_B at g ⊢
    rw [s0, hS 1 (by decide) (by decide), hS 2 (by decide) (by decide), hS 3 (by decide) (by decide), hS 4 (by decide) (by decide), hF 0 (by decide) (by decide), hF 1 (by decide) (by decide), hF 2 (by decide) (by decide), hF 3 (by decide) (by decide), hF 4 (by decide) (by decide)]
    exact g
  · unfold s_pt
    rw [Pz _ (by omega) (by omega) (by omega) (by omega)]
    exact g7 r r0 r1
