/-! the law's actions: the class' field and the law's arrays go alike -/
theorem w_Jc_off {S S2 A : q_S} (J : s_Jc S A) (h : w_offT S S2) : s_Jc S2 A := by
  have e30 := h 30 (by decide)
  refine ⟨s_st_o J.F (fun a h1 h2 => h a (by omega)), by rw [h 29 (by decide)]; exact J.n, J.nb, by have g := J.hs; unfold s_hs at g ⊢; rw [e30]; exact g, fun i i0 i1 => ?_, fun k k0 k1 => ?_, fun k k0 k1 hk => ?_, by rw [h 25 (by decide)]; exact J.p, fun z z0 z1 => by rw [h 26 (by decide)]; exact J.ps z z0 z1⟩
  · rw [e30]
    have q := s_hF_i (J.f i0 (show i < 7 by have := J.nb; omega)).2
    exact s_st_o (J.h i i0 i1) (fun a h1 h2 => h a (by omega))
  · rw [h 149 (by decide), h 122 (by decide)]; exact J.s1 k k0 k1
  · have q := s_sb_b k
    exact s_st_o (J.s2 k k0 k1 hk) (fun a h1 h2 => h a (by omega))
theorem q_dup_x2 {Γ : q_G} {M : q_M} {d bc bs pc pc' : Nat} {L : List (Nat × Value)} {st : List Value} {w : q_W} {Q : Option Value → q_W → Prop} {v u t : Value} (hd : decode M.2.1 pc = .ok (.dup_x2, 1)) (hp : pc + 1 = pc') (hv : v.category = 1) (hu : u.category = 1) (ht : t.category = 1) (k : q_Go Γ M d bc bs pc' L (v :: u :: t :: v :: st) w Q) : q_Go Γ M d bc bs pc L (v :: u :: t :: st) w Q := by
  subst hp
  exact q_pure (fun p e R s m args below meth c H locs cells slots Z ls C hl hcc hss h => lv_dup_x2 C.1 C.2.1 hd hv hu ht h) k
/-- any bits of a number -/
def w_sh (x k : Int) : Int := (Int32.ofInt x >>> (Int32.ofInt k &&& 31)).toInt
theorem w_sh_e {x k : Int} : Int32.ofInt x >>> (Int32.ofInt k &&& 31) = Int32.ofInt (w_sh x k) := (q_ot _).symm
def w_lw (x : Int) : Int := (Int32.ofInt x &&& Int32.ofInt 2147483647).toInt
theorem w_lw_e {x : Int} : Int32.ofInt x &&& Int32.ofInt 2147483647 = Int32.ofInt (w_lw x) := (q_ot _).symm
theorem w_lw_b (x : Int) : 0 ≤ w_lw x ∧ w_lw x ≤ 2147483647 := by
  have h : (Int32.ofInt x &&& Int32.ofInt 2147483647).toBitVec.msb = false := by
    rw [Int32.toBitVec_and, BitVec.msb_and, show (Int32.ofInt 2147483647).toBitVec.msb = false by decide, Bool.and_false]
  have e : w_lw x = (Int32.ofInt x &&& Int32.ofInt 2147483647).toBitVec.toInt := rfl
  rw [BitVec.toInt_eq_toNat_of_msb h] at e
  have r := q_rgt (Int32.ofInt x &&& Int32.ofInt 2147483647)
  have r2 : q_rg (w_lw x) := r
  exact ⟨by omega, r2.2⟩
theorem c_L_cell {Γ : q_G} {K : List q_K} {S : q_S} {k : Int} (k0 : 0 ≤ k) (k1 : k ≤ 1000) (iN : (q_n Γ : Int) ≤ 260) : q_Sp Γ mL_cell 0 0 0 [.ref (q_ad Γ 3), q_i k] (K, S) (fun v w => ∃ y, v = some (q_i y) ∧ q_rg y ∧ w = (K, S)) := by
  show q_Go Γ mL_cell 0 0 0 0 [(0, .ref (q_ad Γ 3)), (1, q_i k)] [] (K, S) _
  refine q_iloadn (pc' := 1) 1 dL_cell_0 rfl rfl ?_
  refine q_aloadn (pc' := 2) 0 dL_cell_1 rfl rfl ?_
  refine q_tlen (i := 3) (pc' := 3) dL_cell_2 rfl (by decide) ?_
  show q_Go Γ mL_cell 0 0 0 3 [(0, .ref (q_ad Γ 3)), (1, q_i k)] [q_i ((q_n Γ : Nat) : Int), q_i k] (K, S) _
  refine q_icmp_ge (tgt := 12) (pc' := 6) dL_cell_3 rfl rfl ⟨by omega, by omega⟩ ⟨by omega, by omega⟩ (fun h => ?_) (fun h => ?_)
  · refine q_ldc (pc' := 14) dL_cell_12 rfl wL_7 ?_
    refine q_iloadn (pc' := 15) 1 dL_cell_14 rfl rfl ?_
    refine q_iconst (pc' := 16) dL_cell_15 rfl ?_
    refine q_iadd (pc' := 17) dL_cell_16 rfl ?_
    refine q_imul (pc' := 18) dL_cell_17 rfl ?_
    refine q_ldc (pc' := 20) dL_cell_18 rfl wL_8 ?_
    refine q_iadd (pc' := 21) dL_cell_20 rfl ?_
    refine p_wr (fun hr => ?_)
    exact q_iret dL_cell_21 rfl rfl ⟨_, rfl, hr, rfl⟩
  · refine q_aloadn (pc' := 7) 0 dL_cell_6 rfl rfl ?_
    refine q_iloadn (pc' := 8) 1 dL_cell_7 rfl rfl ?_
    refine q_tald (i := 3) (pc' := 9) dL_cell_8 rfl (by decide) k0 (show k < ((q_n Γ : Nat) : Int) from h) (by omega) ?_
    refine q_goto (pc' := 21) dL_cell_9 rfl ?_
    refine p_wr (fun hr => ?_)
    exact q_iret dL_cell_21 rfl rfl ⟨_, rfl, hr, rfl⟩
theorem c_L_low {Γ : q_G} {K : List q_K} {S : q_S} {v n : Int} (n0 : 0 < n) (n1 : n ≤ 1000) : q_Sp Γ mL_low 0 0 0 [q_i v, q_i n] (K, S) (fun v w => ∃ y, v = some (q_i y) ∧ 0 ≤ y ∧ y < n ∧ w = (K, S)) := by
  have b := w_lw_b v
  show q_Go Γ mL_low 0 0 0 0 [(0, q_i v), (1, q_i n)] [] (K, S) _
  refine q_iloadn (pc' := 1) 0 dL_low_0 rfl rfl ?_
  refine q_ldc (pc' := 3) dL_low_1 rfl wL_9 ?_
  refine q_iand (z := w_lw v) (pc' := 4) dL_low_3 rfl w_lw_e ?_
  refine q_iloadn (pc' := 5) 1 dL_low_4 rfl rfl ?_
  refine q_irem (pc' := 6) dL_low_5 rfl b.1 b.2 n0 (by omega) ?_
  exact q_iret dL_low_6 rfl rfl ⟨_, rfl, Int.emod_nonneg _ (by omega), Int.emod_lt_of_pos _ n0, rfl⟩
/-! while the rows are built -/
def w_pl (r : Int) : Int := if r = 2 then 3 else if r = 3 then 30 else 12 * r
def w_R0 (S : q_S) (φ : Int → Int) (k : Int) : Prop := φ 0 = k ∧ (S 150 0 = 0 ∧ S 150 1 = 0 ∧ S 150 2 = φ 2) ∧ (φ 3 = 0 ∧ φ 4 = 0) ∧ (∀ r p, 0 ≤ r → r < k → 0 ≤ p → p < 4 → S 151 (4 * r + p) = s_pt φ r p) ∧ (∀ r, k ≤ r → r < 4 → S 151 (4 * r + 3) = 0) ∧
  (∀ i a b, 0 ≤ i → i < 3 → 0 ≤ a → a < 4 → 0 ≤ b → b < 4 → S 152 (16 * i + 4 * a + b) = s_rt φ a b (w_h i)) ∧ (S 153 3 = φ 1 ∧ ∀ i, 0 ≤ i → i < 3 → S 153 i = φ (5 + w_h i)) ∧ (∀ r, 0 ≤ r → r < 6 → s_pt φ r 3 = 0) ∧ (∀ r, 0 ≤ r → r < k → w_pl r ≤ s_pt φ r 0 ∧ s_pt φ r 0 ≤ w_pl r + 2)
theorem w_R0_4 {S : q_S} {φ : Int → Int} (H : w_R0 S φ 4) : w_R S φ := by
  obtain ⟨g0, g1, g2, g3, g4, g5, g6, g7, g8⟩ := H
  exact ⟨g0, by omega, g3, g5, g6, fun k k0 k1 => by omega, fun k k0 k1 => by omega, fun r r0 r1 => g7 r (by omega) r1⟩
theorem w_row {S A : q_S} {p l u r : Int} (H : w_R0 S (A 151) r) (r0 : 0 ≤ r) (r1 : r < 4) (hp : w_pl r ≤ p ∧ p ≤ w_pl r + 2) (hl : 1 ≤ l ∧ l ≤ 20) (hu : 0 ≤ u ∧ u ≤ 4) : s_rowV (A 151) p l u = r ∧ s_rowS A p l u 151 = s_set (s_set (s_set (s_set (s_set (A 151) (15 + 4 * r + 0) p) (15 + 4 * r + 1) l) (15 + 4 * r + 2) u) (15 + 4 * r + 3) 0) 0 (r + 1) := by
  obtain ⟨g0, g1, g2, g3, g4, g5, g6, g7, g8⟩ := H
  have b : 0 ≤ w_pl r ∧ w_pl r ≤ 30 := by unfold w_pl; omega
  have nt : ¬ s_taken (A 151) p := fun ⟨q, q0, q1, e⟩ => by
    have g := g8 q q0 (by omega)
    unfold w_pl at g hp
    omega
  have v := s_rowV_4 (φ := A 151) (p := p) (l := l) (u := u) ⟨by omega, hl, hu⟩ (by omega) nt
  refine ⟨by rw [v, g0], ?_⟩
  unfold s_rowS s_built
  rw [v, if_neg (by omega)]
  simp only [q_up_w, q_w1_s, s_rec_151, g0]
theorem w_R0_s {S S2 : q_S} {φ : Int → Int} {p l u r : Int} (H : w_R0 S φ r) (r0 : 0 ≤ r) (r1 : r < 4) (hp : w_pl r ≤ p ∧ p ≤ w_pl r + 2) (h : ∀ a : Nat, 150 ≤ a → S2 a = q_up (q_up (q_up S 151 (4 * r) p) 151 (4 * r + 1) l) 151 (4 * r + 2) u a) :
    w_R0 S2 (s_set (s_set (s_set (s_set (s_set φ (15 + 4 * r + 0) p) (15 + 4 * r + 1) l) (15 + 4 * r + 2) u) (15 + 4 * r + 3) 0) 0 (r + 1)) (r + 1) := by
  obtain ⟨g0, g1, g2, g3, g4, g5, g6, g7, g8⟩ := H
  generalize hψ : s_set (s_set (s_set (s_set (s_set φ (15 + 4 * r + 0) p) (15 + 4 * r + 1) l) (15 + 4 * r + 2) u) (15 + 4 * r + 3) 0) 0 (r + 1) = ψ
  have n : ∀ z : Int, z ≠ 0 → (z < 15 + 4 * r ∨ 15 + 4 * r + 3 < z) → ψ z = φ z := fun z z0 z1 => by
    rw [← hψ, s_set_ne z0, s_set_ne (by omega), s_set_ne (by omega), s_set_ne (by omega), s_set_ne (by omega)]
  have z0 : ψ 0 = r + 1 := by rw [← hψ, s_set_eq]
  have y0 : ψ (15 + 4 * r + 0) = p := by rw [← hψ, s_set_ne (by omega), s_set_ne (by omega), s_set_ne (by omega), s_set_ne (by omega), s_set_eq]
  have y1 : ψ (15 + 4 * r + 1) = l := by rw [← hψ, s_set_ne (by omega), s_set_ne (by omega), s_set_ne (by omega), s_set_eq]
  have y2 : ψ (15 + 4 * r + 2) = u := by rw [← hψ, s_set_ne (by omega), s_set_ne (by omega), s_set_eq]
  have y3 : ψ (15 + 4 * r + 3) = 0 := by rw [← hψ, s_set_ne (by omega), s_set_eq]
  have m : ∀ a : Nat, 150 ≤ a → a ≠ 151 → S2 a = S a := fun a h1 h2 => by rw [h a h1, q_up_ne h2, q_up_ne h2, q_up_ne h2]
  have t0 : S2 151 (4 * r) = p := by rw [h 151 (by decide), q_up_nz (by omega), q_up_nz (by omega), q_up_eq]
  have t1 : S2 151 (4 * r + 1) = l := by rw [h 151 (by decide), q_up_nz (by omega), q_up_eq]
  have t2 : S2 151 (4 * r + 2) = u := by rw [h 151 (by decide), q_up_eq]
  have t : ∀ z : Int, z ≠ 4 * r → z ≠ 4 * r + 1 → z ≠ 4 * r + 2 → S2 151 z = S 151 z := fun z h0 h1 h2 => by rw [h 151 (by decide), q_up_nz h2, q_up_nz h1, q_up_nz h0]
  refine ⟨z0, ?_, ?_, fun q x q0 q1 x0 x1 => ?_, fun q q0 q1 => ?_, fun i a b i0 i1 a0 a1 b0 b1 => ?_, ?_, fun q q0 q1 => ?_, fun q q0 q1 => ?_⟩
  · rw [m 150 (by decide) (by decide), n 2 (by omega) (by omega)]; exact g1
  · rw [n 3 (by omega) (by omega), n 4 (by omega) (by omega)]; exact g2
  · unfold s_pt
    rcases (show q < r ∨ q = r by omega) with e | e
    · rw [t _ (by omega) (by omega) (by omega), n _ (by omega) (by omega)]
      exact g3 q x q0 e x0 x1
    · subst e
      rcases (show x = 0 ∨ x = 1 ∨ x = 2 ∨ x = 3 by omega) with e | e | e | e <;> subst e
      · rw [Int.add_zero, t0, y0]
      · rw [t1, y1]
      · rw [t2, y2]
      · rw [t _ (by omega) (by omega) (by omega), y3]
        exact g4 q (Int.le_refl _) (by omega)
  · rw [t _ (by omega) (by omega) (by omega)]
    exact g4 q (by omega) q1
  · have wb := w_h_b i
    unfold s_rt
    rw [m 152 (by decide) (by decide), n _ (by omega) (by omega)]
    exact g5 i a b i0 i1 a0 a1 b0 b1
  · rw [m 153 (by decide) (by decide), n 1 (by omega) (by omega)]
    refine ⟨g6.1, fun i i0 i1 => ?_⟩
    have wb := w_h_b i
    rw [n _ (by omega) (by omega)]
    exact g6.2 i i0 i1
  · unfold s_pt
    by_cases e : q = r
    · subst e; exact y3
    · rw [n _ (by omega) (by omega)]
      exact g7 q q0 q1
  · unfold s_pt
    rcases (show q < r ∨ q = r by omega) with e | e
    · rw [n _ (by omega) (by omega)]
      exact g8 q q0 e
    · subst e
      rw [y0]; exact hp
/-! an action -/
theorem w_aTilt {S A : q_S} {r u : Int} (H : w_R S (A 151)) (r0 : 0 ≤ r) (r1 : r < 4) (u0 : 0 ≤ u) (u1 : u ≤ 4) : s_tiltV (A 151) r u = s_pt (A 151) r 2 ∧ w_R (q_up S 151 (4 * r + 2) u) (s_tiltS A r u 151) := by
  have g : ¬ s_wTilt (A 151) r u < 0 := by have h4 := H.1; unfold s_wTilt; omega
  refine ⟨if_neg g, ?_⟩
  unfold s_tiltS
  rw [if_neg g, s_up_rec, q_w1_s]
  exact w_R_pt H r0 r1 (by decide) (by decide)
theorem w_aWind {S A : q_S} {i u : Int} (H : w_R S (A 151)) (i0 : 0 ≤ i) (i1 : i < 3) (u0 : 0 ≤ u) (u1 : u ≤ 9) : s_windV (A 151) (w_h i) u = A 151 (5 + w_h i) ∧ w_R (q_up S 153 i u) (s_windS A (w_h i) u 151) := by
  have wb := w_h_b i
  have g : ¬ s_wWind (w_h i) u < 0 := by unfold s_wWind; omega
  refine ⟨if_neg g, ?_⟩
  unfold s_windS
  rw [if_neg g, s_up_rec, q_w1_s]
  exact w_R_wi H i0 i1
theorem w_aGrant {S A : q_S} {i a b u : Int} (H : w_R S (A 151)) (i0 : 0 ≤ i) (i1 : i < 3) (a0 : 0 ≤ a) (a1 : a < 4) (b0 : 0 ≤ b) (b1 : b < 4) (ab : ¬ b = a) (u0 : 0 ≤ u) (u1 : u ≤ 999) : s_grantV (A 151) a b (w_h i) u = s_rt (A 151) a b (w_h i) ∧ w_R (q_up S 152 (16 * i + 4 * a + b) u) (s_grantS A a b (w_h i) u 151) := by
  have wb := w_h_b i
  have g : ¬ s_wGrant (A 151) a b (w_h i) u < 0 := by have h4 := H.1; unfold s_wGrant; omega
  refine ⟨if_neg g, ?_⟩
  unfold s_grantS
  rw [if_neg g, s_up_rec, q_w1_s]
  exact w_R_rt H i0 i1 a0 a1 b0 b1
theorem w_aAsk {S A : q_S} {a i u p : Int} (H : w_R S (A 151)) (ok : s_ok (A 151)) (i0 : 0 ≤ i) (i1 : i < 3) (a0 : 0 ≤ a) (a1 : a < 4) (u0 : 1 ≤ u) (u1 : u ≤ 200) (p0 : 0 ≤ p) (p1 : p ≤ 999) : s_askV (A 151) a (w_h i) u p = (if A 151 3 = 10 then -4 else A 151 3 + 1) ∧ (A 151 3 = 10 → w_R S (s_askS A a (w_h i) u p 151)) ∧
    (A 151 3 < 10 → w_R (q_up (q_up (q_up (q_up (q_up S 150 0 (A 151 3 + 1)) 154 (4 * A 151 3) a) 154 (4 * A 151 3 + 1) i) 154 (4 * A 151 3 + 2) u) 154 (4 * A 151 3 + 3) p) (s_askS A a (w_h i) u p 151)) := by
  have wb := w_h_b i
  have h4 := H.1
  have c3 := ok.2.2.1
  have c4 := ok.2.2.2.1
  have w : s_wAsk (A 151) a (w_h i) u p = if A 151 3 = 10 then -4 else 0 := by unfold s_wAsk; omega
  refine ⟨by unfold s_askV; rw [w]; split <;> omega, fun e => ?_, fun e => ?_⟩
  · unfold s_askS
    rw [w, if_pos e, if_pos (by decide)]
    exact H
  · unfold s_askS
    rw [w, if_neg (by omega), s_asked_w, q_w1_s, s_rec_151]
    generalize hn : A 151 3 = n at *
    unfold s_askP
    rw [hn]
    generalize A 151 = φ at *
    generalize hψ : s_set (s_set (s_set (s_set (s_set φ (399 + 4 * n + 0) a) (399 + 4 * n + 1) (w_h i)) (399 + 4 * n + 2) u) (399 + 4 * n + 3) p) 3 (n + 1) = ψ
    generalize hX : q_up (q_up (q_up (q_up (q_up S 150 0 (n + 1)) 154 (4 * n) a) 154 (4 * n + 1) i) 154 (4 * n + 2) u) 154 (4 * n + 3) p = X
    have k : ∀ z : Int, z ≠ 3 → (z < 399 + 4 * n ∨ 399 + 4 * n + 3 < z) → ψ z = φ z := fun z z0 z1 => by
      rw [← hψ, s_set_ne z0, s_set_ne (by omega), s_set_ne (by omega), s_set_ne (by omega), s_set_ne (by omega)]
    have m : ∀ c : Nat, c ≠ 150 → c ≠ 154 → X c = S c := fun c h1 h2 => by rw [← hX, q_up_ne h2, q_up_ne h2, q_up_ne h2, q_up_ne h2, q_up_ne h1]
    have m0 : ∀ z : Int, z ≠ 0 → X 150 z = S 150 z := fun z hz => by rw [← hX, q_up_ne (by decide), q_up_ne (by decide), q_up_ne (by decide), q_up_ne (by decide), q_up_nz hz]
    have m1 : ∀ z : Int, z < 4 * n → X 154 z = S 154 z := fun z hz => by rw [← hX, q_up_nz (by omega), q_up_nz (by omega), q_up_nz (by omega), q_up_nz (by omega), q_up_ne (by decide)]
    obtain ⟨g0, g1, g2, g3, g4, g5, g6, g7⟩ := H
    refine ⟨by rw [k 0 (by omega) (by omega)]; exact g0, ⟨?_, ?_, ?_⟩, fun r q r0 r1 q0 q1 => ?_, fun i2 a2 b2 x0 x1 x2 x3 x4 x5 => ?_, ?_, fun j j0 j1 => ?_, fun j j0 j1 => ?_, fun r r0 r1 => ?_⟩
    · rw [← hX, q_up_ne (by decide), q_up_ne (by decide), q_up_ne (by decide), q_up_ne (by decide), q_up_eq, ← hψ, s_set_eq]
    · rw [m0 1 (by decide), k 4 (by omega) (by omega)]; exact g1.2.1
    · rw [m0 2 (by decide), k 2 (by omega) (by omega)]; exact g1.2.2
    · rw [m 151 (by decide) (by decide)]; unfold s_pt; rw [k _ (by omega) (by omega)]; exact g2 r q r0 r1 q0 q1
    · have wb2 := w_h_b i2
      rw [m 152 (by decide) (by decide)]; unfold s_rt; rw [k _ (by omega) (by omega)]; exact g3 i2 a2 b2 x0 x1 x2 x3 x4 x5
    · rw [m 153 (by decide) (by decide), k 1 (by omega) (by omega)]
      refine ⟨g4.1, fun i2 x0 x1 => ?_⟩
      have wb2 := w_h_b i2
      rw [k _ (by omega) (by omega)]; exact g4.2 i2 x0 x1
    · have j2 : j < n + 1 := by rw [← hψ, s_set_eq] at j1; exact j1
      rcases (show j < n ∨ j = n by omega) with e2 | e2
      · have g := g5 j j0 (by omega)
        unfold w_A s_as at g ⊢
        rw [m1 _ (by omega), m1 _ (by omega), m1 _ (by omega), m1 _ (by omega), k (399 + 4 * j + 0) (by omega) (by omega), k (399 + 4 * j + 1) (by omega) (by omega), k (399 + 4 * j + 2) (by omega) (by omega), k (399 + 4 * j + 3) (by omega) (by omega)]
        exact g
      · subst e2
        unfold w_A s_as
        rw [← hX, ← hψ]
        rw [s_set_ne (show 399 + 4 * j + 0 ≠ 3 by omega), s_set_ne (show 399 + 4 * j + 1 ≠ 3 by omega), s_set_ne (show 399 + 4 * j + 2 ≠ 3 by omega), s_set_ne (show 399 + 4 * j + 3 ≠ 3 by omega), s_set_eq, s_set_ne (show 399 + 4 * j + 0 ≠ 399 + 4 * j + 3 by omega), s_set_ne (show 399 + 4 * j + 1 ≠ 399 + 4 * j + 3 by omega), s_set_ne (show 399 + 4 * j + 2 ≠ 399 + 4 * j + 3 by omega), s_set_eq, s_set_ne (show 399 + 4 * j + 0 ≠ 399 + 4 * j + 2 by omega), s_set_ne (show 399 + 4 * j + 1 ≠ 399 + 4 * j + 2 by omega), s_set_eq, s_set_ne (show 399 + 4 * j + 0 ≠ 399 + 4 * j + 1 by omega), s_set_eq]
        have f0 : q_up (q_up (q_up (q_up (q_up S 150 0 (j + 1)) 154 (4 * j) a) 154 (4 * j + 1) i) 154 (4 * j + 2) u) 154 (4 * j + 3) p 154 (4 * j) = a := by rw [q_up_nz (by omega), q_up_nz (by omega), q_up_nz (by omega), q_up_eq]
        have f1 : q_up (q_up (q_up (q_up (q_up S 150 0 (j + 1)) 154 (4 * j) a) 154 (4 * j + 1) i) 154 (4 * j + 2) u) 154 (4 * j + 3) p 154 (4 * j + 1) = i := by rw [q_up_nz (by omega), q_up_nz (by omega), q_up_eq]
        have f2 : q_up (q_up (q_up (q_up (q_up S 150 0 (j + 1)) 154 (4 * j) a) 154 (4 * j + 1) i) 154 (4 * j + 2) u) 154 (4 * j + 3) p 154 (4 * j + 2) = u := by rw [q_up_nz (by omega), q_up_eq]
        rw [f0, f1, f2, q_up_eq]
        exact ⟨rfl, ⟨i0, i1, rfl⟩, rfl, rfl, a1⟩
    · rw [k 4 (by omega) (by omega)] at j1
      have g := g6 j j0 j1
      unfold w_B s_bd at g ⊢
      rw [m 155 (by decide) (by decide), k (439 + 5 * j + 0) (by omega) (by omega), k (439 + 5 * j + 1) (by omega) (by omega), k (439 + 5 * j + 2) (by omega) (by omega), k (439 + 5 * j + 3) (by omega) (by omega), k (439 + 5 * j + 4) (by omega) (by omega)]
      exact g
    · unfold s_pt; rw [k _ (by omega) (by omega)]; exact g7 r r0 r1
theorem w_aBid {S A : q_S} {b a i u p : Int} (H : w_R S (A 151)) (ok : s_ok (A 151)) (i0 : 0 ≤ i) (i1 : i < 3) (a0 : 0 ≤ a) (a1 : a < 4) (b0 : 0 ≤ b) (b1 : b < 4) (ab : ¬ b = a) (u0 : 1 ≤ u) (u1 : u ≤ 200) (p0 : 0 ≤ p) (p1 : p ≤ 999) : s_bidV (A 151) b a (w_h i) u p = (if A 151 4 = 10 then -4 else A 151 4 + 1) ∧ (A 151 4 = 10 → w_R S (s_bidS A b a (w_h i) u p 151)) ∧
    (A 151 4 < 10 → w_R (q_up (q_up (q_up (q_up (q_up (q_up S 150 1 (A 151 4 + 1)) 155 (5 * A 151 4) a) 155 (5 * A 151 4 + 1) i) 155 (5 * A 151 4 + 2) u) 155 (5 * A 151 4 + 3) p) 155 (5 * A 151 4 + 4) b) (s_bidS A b a (w_h i) u p 151)) := by
  have wb := w_h_b i
  have h4 := H.1
  have c3 := ok.2.2.1
  have c4 := ok.2.2.2.1
  have w : s_wBid (A 151) b a (w_h i) u p = if A 151 4 = 10 then -4 else 0 := by unfold s_wBid; omega
  refine ⟨by unfold s_bidV; rw [w]; split <;> omega, fun e => ?_, fun e => ?_⟩
  · unfold s_bidS
    rw [w, if_pos e, if_pos (by decide)]
    exact H
  · unfold s_bidS
    rw [w, if_neg (by omega), s_bought_w, q_w1_s, s_rec_151]
    generalize hn : A 151 4 = n at *
    unfold s_bidP
    rw [hn]
    generalize A 151 = φ at *
    generalize hψ : s_set (s_set (s_set (s_set (s_set (s_set φ (439 + 5 * n + 0) a) (439 + 5 * n + 1) (w_h i)) (439 + 5 * n + 2) u) (439 + 5 * n + 3) p) (439 + 5 * n + 4) b) 4 (n + 1) = ψ
    generalize hX : q_up (q_up (q_up (q_up (q_up (q_up S 150 1 (n + 1)) 155 (5 * n) a) 155 (5 * n + 1) i) 155 (5 * n + 2) u) 155 (5 * n + 3) p) 155 (5 * n + 4) b = X
    have k : ∀ z : Int, z ≠ 4 → (z < 439 + 5 * n ∨ 439 + 5 * n + 4 < z) → ψ z = φ z := fun z z0 z1 => by
      rw [← hψ, s_set_ne z0, s_set_ne (by omega), s_set_ne (by omega), s_set_ne (by omega), s_set_ne (by omega), s_set_ne (by omega)]
    have m : ∀ c : Nat, c ≠ 150 → c ≠ 155 → X c = S c := fun c h1 h2 => by rw [← hX, q_up_ne h2, q_up_ne h2, q_up_ne h2, q_up_ne h2, q_up_ne h2, q_up_ne h1]
    have m0 : ∀ z : Int, z ≠ 1 → X 150 z = S 150 z := fun z hz => by rw [← hX, q_up_ne (by decide), q_up_ne (by decide), q_up_ne (by decide), q_up_ne (by decide), q_up_ne (by decide), q_up_nz hz]
    have m1 : ∀ z : Int, z < 5 * n → X 155 z = S 155 z := fun z hz => by rw [← hX, q_up_nz (by omega), q_up_nz (by omega), q_up_nz (by omega), q_up_nz (by omega), q_up_nz (by omega), q_up_ne (by decide)]
    have f0 : X 155 (5 * n) = a := by rw [← hX, q_up_nz (by omega), q_up_nz (by omega), q_up_nz (by omega), q_up_nz (by omega), q_up_eq]
    have f1 : X 155 (5 * n + 1) = i := by rw [← hX, q_up_nz (by omega), q_up_nz (by omega), q_up_nz (by omega), q_up_eq]
    have f2 : X 155 (5 * n + 2) = u := by rw [← hX, q_up_nz (by omega), q_up_nz (by omega), q_up_eq]
    have f3 : X 155 (5 * n + 3) = p := by rw [← hX, q_up_nz (by omega), q_up_eq]
    have f4 : X 155 (5 * n + 4) = b := by rw [← hX, q_up_eq]
    have y0 : ψ (439 + 5 * n + 0) = a := by rw [← hψ, s_set_ne (by omega), s_set_ne (by omega), s_set_ne (by omega), s_set_ne (by omega), s_set_ne (by omega), s_set_eq]
    have y1 : ψ (439 + 5 * n + 1) = w_h i := by rw [← hψ, s_set_ne (by omega), s_set_ne (by omega), s_set_ne (by omega), s_set_ne (by omega), s_set_eq]
    have y2 : ψ (439 + 5 * n + 2) = u := by rw [← hψ, s_set_ne (by omega), s_set_ne (by omega), s_set_ne (by omega), s_set_eq]
    have y3 : ψ (439 + 5 * n + 3) = p := by rw [← hψ, s_set_ne (by omega), s_set_ne (by omega), s_set_eq]
    have y4 : ψ (439 + 5 * n + 4) = b := by rw [← hψ, s_set_ne (by omega), s_set_eq]
    obtain ⟨g0, g1, g2, g3, g4, g5, g6, g7⟩ := H
    refine ⟨by rw [k 0 (by omega) (by omega)]; exact g0, ⟨?_, ?_, ?_⟩, fun r q r0 r1 q0 q1 => ?_, fun i2 a2 b2 x0 x1 x2 x3 x4 x5 => ?_, ?_, fun j j0 j1 => ?_, fun j j0 j1 => ?_, fun r r0 r1 => ?_⟩
    · rw [m0 0 (by decide), k 3 (by omega) (by omega)]; exact g1.1
    · rw [← hX, q_up_ne (by decide), q_up_ne (by decide), q_up_ne (by decide), q_up_ne (by decide), q_up_ne (by decide), q_up_eq, ← hψ, s_set_eq]
    · rw [m0 2 (by decide), k 2 (by omega) (by omega)]; exact g1.2.2
    · rw [m 151 (by decide) (by decide)]; unfold s_pt; rw [k _ (by omega) (by omega)]; exact g2 r q r0 r1 q0 q1
    · have wb2 := w_h_b i2
      rw [m 152 (by decide) (by decide)]; unfold s_rt; rw [k _ (by omega) (by omega)]; exact g3 i2 a2 b2 x0 x1 x2 x3 x4 x5
    · rw [m 153 (by decide) (by decide), k 1 (by omega) (by omega)]
      refine ⟨g4.1, fun i2 x0 x1 => ?_⟩
      have wb2 := w_h_b i2
      rw [k _ (by omega) (by omega)]; exact g4.2 i2 x0 x1
    · rw [k 3 (by omega) (by omega)] at j1
      have g := g5 j j0 j1
      unfold w_A s_as at g ⊢
      rw [m 154 (by decide) (by decide), k (399 + 4 * j + 0) (by omega) (by omega), k (399 + 4 * j + 1) (by omega) (by omega), k (399 + 4 * j + 2) (by omega) (by omega), k (399 + 4 * j + 3) (by omega) (by omega)]
      exact g
    · have j2 : j < n + 1 := by rw [← hψ, s_set_eq] at j1; exact j1
      rcases (show j < n ∨ j = n by omega) with e2 | e2
      · have g := g6 j j0 (by omega)
        unfold w_B s_bd at g ⊢
        rw [m1 _ (by omega), m1 _ (by omega), m1 _ (by omega), m1 _ (by omega), m1 _ (by omega), k (439 + 5 * j + 0) (by omega) (by omega), k (439 + 5 * j + 1) (by omega) (by omega), k (439 + 5 * j + 2) (by omega) (by omega), k (439 + 5 * j + 3) (by omega) (by omega), k (439 + 5 * j + 4) (by omega) (by omega)]
        exact g
      · subst e2
        unfold w_B s_bd
        rw [f0, f1, f2, f3, f4, y0, y1, y2, y3, y4]
        exact ⟨rfl, ⟨i0, i1, rfl⟩, rfl, rfl, rfl, a1, b1⟩
    · unfold s_pt; rw [k _ (by omega) (by omega)]; exact g7 r r0 r1
