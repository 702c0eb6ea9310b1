/-! the rules for a world given as a pair; what is read gets a name and its range -/
noncomputable def q_B (P : Prop) : Int := @ite Int P (Classical.propDecidable P) 1 0
theorem q_B_t {P : Prop} (h : P) : q_B P = 1 := if_pos h
theorem q_B_f {P : Prop} (h : ¬ P) : q_B P = 0 := if_neg h
theorem q_B_or (P : Prop) : (P ∧ q_B P = 1) ∨ (¬ P ∧ q_B P = 0) := (Classical.em P).elim (fun h => Or.inl ⟨h, q_B_t h⟩) (fun h => Or.inr ⟨h, q_B_f h⟩)
theorem q_B_rg (P : Prop) : q_rg (q_B P) := by rcases q_B_or P with ⟨-, h⟩ | ⟨-, h⟩ <;> rw [h] <;> exact ⟨by decide, by decide⟩
theorem q_B_nar (P : Prop) : narrow .boolean (q_i (q_B P)) = q_i (q_B P) := by rcases q_B_or P with ⟨-, h⟩ | ⟨-, h⟩ <;> rw [h] <;> rfl
theorem q_B_congr {P P' : Prop} (h : P ↔ P') : q_B P = q_B P' := by rw [show P = P' from propext h]
section PR
variable {Γ : q_G} {M M' : q_M} {d d' bc bs pc pc' : Nat} {L : List (Nat × Value)} {st stk As : List Value} {K : List q_K} {S : q_S} {Q Q' : Option Value → q_W → Prop}
theorem q_if_eq_B {P : Prop} {off : Int} {tgt : Nat} {w : q_W} (hd : decode M.2.1 pc = .ok (.ifCond .eq off, 3)) (ht : (pc : Int) + off = (tgt : Int)) (hp : pc + 3 = pc') (kt : ¬ P → q_Go Γ M d bc bs tgt L st w Q) (kf : P → q_Go Γ M d bc bs pc' L st w Q) : q_Go Γ M d bc bs pc L (q_i (q_B P) :: st) w Q :=
  q_if_eq hd ht hp (q_B_rg P) (fun h => kt (fun hP => by rw [q_B_t hP] at h; cases h)) (fun h => kf (Classical.byContradiction fun hP => h (q_B_f hP)))
theorem q_if_ne_B {P : Prop} {off : Int} {tgt : Nat} {w : q_W} (hd : decode M.2.1 pc = .ok (.ifCond .ne off, 3)) (ht : (pc : Int) + off = (tgt : Int)) (hp : pc + 3 = pc') (kt : P → q_Go Γ M d bc bs tgt L st w Q) (kf : ¬ P → q_Go Γ M d bc bs pc' L st w Q) : q_Go Γ M d bc bs pc L (q_i (q_B P) :: st) w Q :=
  q_if_ne hd ht hp (q_B_rg P) (fun h => kt (Classical.byContradiction fun hP => h (q_B_f hP))) (fun h => kf (fun hP => by rw [q_B_t hP] at h; cases h))
/-- a name for the world's numbers -/
theorem q_topS (k : ∀ S' : q_S, S' = S → q_Go Γ M d bc bs pc L st (K, S') Q) : q_Go Γ M d bc bs pc L st (K, S) Q := k S rfl
theorem p_rng (k : (∀ a j, q_rg (S a j)) → q_Go Γ M d bc bs pc L st (K, S) Q) : q_Go Γ M d bc bs pc L st (K, S) Q := q_rng (pc' := pc) k
theorem p_getI {idx ci k a : Nat} {ty : FieldType} {fin : Bool} {fl : List Nat} (hd : decode M.2.1 pc = .ok (.getfield idx, 3)) (hp : pc + 3 = pc') (hF : q_F M.1.cls idx ci k ty fin) (hK : K[a]? = some (.inl (ci, fl))) (hf : fl[k]? = some 0) (kk : ∀ y : Int, y = S a k → q_rg y → q_Go Γ M d bc bs pc' L (q_i y :: st) (K, S) Q) : q_Go Γ M d bc bs pc L (q_r Γ a :: st) (K, S) Q := q_rng (pc' := pc) fun hr => q_getI hd hp hF hK hf (kk _ rfl (hr a k))
theorem p_getR {idx ci k a f : Nat} {ty : FieldType} {fin : Bool} {fl : List Nat} (hd : decode M.2.1 pc = .ok (.getfield idx, 3)) (hp : pc + 3 = pc') (hF : q_F M.1.cls idx ci k ty fin) (hK : K[a]? = some (.inl (ci, fl))) (hf : fl[k]? = some (f + 2)) (kk : q_Go Γ M d bc bs pc' L (q_r Γ f :: st) (K, S) Q) : q_Go Γ M d bc bs pc L (q_r Γ a :: st) (K, S) Q := q_getR hd hp hF hK hf kk
theorem p_putI {idx ci k a : Nat} {ty : FieldType} {fl : List Nat} {z : Int} (hd : decode M.2.1 pc = .ok (.putfield idx, 3)) (hp : pc + 3 = pc') (hF : q_F M.1.cls idx ci k ty false) (hK : K[a]? = some (.inl (ci, fl))) (hf : fl[k]? = some 0) (hn : narrow ty (q_i z) = q_i z) (hfit : fits ty (q_i z) = true) (hz : q_rg z) (kk : q_Go Γ M d bc bs pc' L st (K, q_up S a k z) Q) : q_Go Γ M d bc bs pc L (q_i z :: q_r Γ a :: st) (K, S) Q := q_putI hd hp hF hK hf hn hfit hz kk
/-- any number, in range or not -/
theorem p_any (z : Int) (kk : ∀ y : Int, q_i y = q_i z → q_rg y → (q_rg z → y = z) → q_Go Γ M d bc bs pc L (q_i y :: st) (K, S) Q) : q_Go Γ M d bc bs pc L (q_i z :: st) (K, S) Q := by
  have e : q_i (Int32.ofInt z).toInt = q_i z := by unfold q_i; rw [q_ot]
  rw [← e]
  exact kk _ e (q_rgt _) (fun h => q_ti h)
theorem p_iald {a n : Nat} {z : Int} (hd : decode M.2.1 pc = .ok (.iaload, 1)) (hp : pc + 1 = pc') (hK : K[a]? = some (.inr (0, n))) (h0 : 0 ≤ z) (h1 : z < (n : Int)) (hn : n ≤ 2147483647) (kk : ∀ y : Int, y = S a z → q_rg y → q_Go Γ M d bc bs pc' L (q_i y :: st) (K, S) Q) : q_Go Γ M d bc bs pc L (q_i z :: q_r Γ a :: st) (K, S) Q := q_rng (pc' := pc) fun hr => q_iald hd hp hK h0 h1 hn (kk _ rfl (hr a z))
theorem p_zald {a n : Nat} {z : Int} (hd : decode M.2.1 pc = .ok (.baload, 1)) (hp : pc + 1 = pc') (hK : K[a]? = some (.inr (1, n))) (h0 : 0 ≤ z) (h1 : z < (n : Int)) (hn : n ≤ 2147483647) (kk : ∀ y : Int, y = S a z → q_rg y → q_Go Γ M d bc bs pc' L (q_i y :: st) (K, S) Q) : q_Go Γ M d bc bs pc L (q_i z :: q_r Γ a :: st) (K, S) Q := q_rng (pc' := pc) fun hr => q_zald hd hp hK h0 h1 hn (kk _ rfl (hr a z))
theorem p_cald {a n : Nat} {z : Int} (hd : decode M.2.1 pc = .ok (.caload, 1)) (hp : pc + 1 = pc') (hK : K[a]? = some (.inr (2, n))) (h0 : 0 ≤ z) (h1 : z < (n : Int)) (hn : n ≤ 2147483647) (kk : ∀ y : Int, y = S a z → q_rg y → q_Go Γ M d bc bs pc' L (q_i y :: st) (K, S) Q) : q_Go Γ M d bc bs pc L (q_i z :: q_r Γ a :: st) (K, S) Q := q_rng (pc' := pc) fun hr => q_cald hd hp hK h0 h1 hn (kk _ rfl (hr a z))
theorem p_aald {a n : Nat} {z : Int} (i : Nat) (hd : decode M.2.1 pc = .ok (.aaload, 1)) (hp : pc + 1 = pc') (hK : K[a]? = some (.inr (3, n))) (h0 : 0 ≤ z) (h1 : z < (n : Int)) (hn : n ≤ 2147483647) (h2 : S a z = (i : Int)) (kk : q_Go Γ M d bc bs pc' L (q_r Γ i :: st) (K, S) Q) : q_Go Γ M d bc bs pc L (q_i z :: q_r Γ a :: st) (K, S) Q :=
  q_aald (w := (K, S)) hd hp hK h0 h1 hn (by show 0 ≤ S a z; omega) (by rw [show ((K, S) : q_W).2 a z = (i : Int) from h2]; exact kk)
theorem p_iast {a n : Nat} {z v : Int} (hd : decode M.2.1 pc = .ok (.iastore, 1)) (hp : pc + 1 = pc') (hK : K[a]? = some (.inr (0, n))) (h0 : 0 ≤ z) (h1 : z < (n : Int)) (hn : n ≤ 2147483647) (hv : q_rg v) (kk : q_Go Γ M d bc bs pc' L st (K, q_up S a z v) Q) : q_Go Γ M d bc bs pc L (q_i v :: q_i z :: q_r Γ a :: st) (K, S) Q := q_iast hd hp hK h0 h1 hn hv kk
theorem p_zast {a n : Nat} {z v : Int} (hd : decode M.2.1 pc = .ok (.bastore, 1)) (hp : pc + 1 = pc') (hK : K[a]? = some (.inr (1, n))) (h0 : 0 ≤ z) (h1 : z < (n : Int)) (hn : n ≤ 2147483647) (hv : v = 0 ∨ v = 1) (kk : q_Go Γ M d bc bs pc' L st (K, q_up S a z v) Q) : q_Go Γ M d bc bs pc L (q_i v :: q_i z :: q_r Γ a :: st) (K, S) Q := q_zast hd hp hK h0 h1 hn hv kk
theorem p_cast {a n : Nat} {z v : Int} (hd : decode M.2.1 pc = .ok (.castore, 1)) (hp : pc + 1 = pc') (hK : K[a]? = some (.inr (2, n))) (h0 : 0 ≤ z) (h1 : z < (n : Int)) (hn : n ≤ 2147483647) (hv0 : 0 ≤ v) (hv1 : v < 65536) (kk : q_Go Γ M d bc bs pc' L st (K, q_up S a z v) Q) : q_Go Γ M d bc bs pc L (q_i v :: q_i z :: q_r Γ a :: st) (K, S) Q := q_cast hd hp hK h0 h1 hn hv0 hv1 kk
theorem p_aast {a n i : Nat} {z : Int} {fl : List Nat} (hd : decode M.2.1 pc = .ok (.aastore, 1)) (hp : pc + 1 = pc') (hK : K[a]? = some (.inr (3, n))) (h0 : 0 ≤ z) (h1 : z < (n : Int)) (hn : n ≤ 2147483647) (hi : K[i]? = some (.inl (0, fl))) (hi2 : i ≤ 2147483647) (kk : q_Go Γ M d bc bs pc' L st (K, q_up S a z i) Q) : q_Go Γ M d bc bs pc L (q_r Γ i :: q_i z :: q_r Γ a :: st) (K, S) Q := q_aast hd hp hK h0 h1 hn hi hi2 kk
theorem p_alen {a t n : Nat} (hd : decode M.2.1 pc = .ok (.arraylength, 1)) (hp : pc + 1 = pc') (ht : t < 4) (hK : K[a]? = some (.inr (t, n))) (kk : q_Go Γ M d bc bs pc' L (q_i n :: st) (K, S) Q) : q_Go Γ M d bc bs pc L (q_r Γ a :: st) (K, S) Q := q_alen hd hp ht hK kk
theorem p_tald {i : Nat} {z : Int} {w : q_W} (hd : decode M.2.1 pc = .ok (.iaload, 1)) (hp : pc + 1 = pc') (hi : i < 4) (h0 : 0 ≤ z) (h1 : z < ((q_tab Γ i).1 : Int)) (h2 : z ≤ 2147483647) (kk : ∀ y : Int, y = (q_tab Γ i).2 z.toNat → q_Go Γ M d bc bs pc' L (q_i y :: st) w Q) : q_Go Γ M d bc bs pc L (q_i z :: .ref (q_ad Γ i) :: st) w Q := q_tald hd hp hi h0 h1 h2 (kk _ rfl)
theorem p_copy {idx a0 a n0 n1 : Nat} {sp dp n : Int} (hd : decode M.2.1 pc = .ok (.invokestatic idx, 3)) (hp : pc + 3 = pc') (hlk : Cond.methodLink M.1.cls idx arraycopyName ∈ q_words) (hd1 : 1 ≤ d) (hcat : (st.map fun v => v.category).sum ≤ 8)
    (hK0 : K[a0]? = some (.inr (0, n0))) (hK1 : K[a]? = some (.inr (0, n1))) (h1 : 0 ≤ sp) (h2 : 0 ≤ dp) (h3 : 0 ≤ n) (h4 : sp + n ≤ (n0 : Int)) (h5 : dp + n ≤ (n1 : Int)) (h6 : n0 ≤ 2147483647) (h7 : n1 ≤ 2147483647)
    (kk : q_Go Γ M d bc bs pc' L st (K, q_cp S a0 a sp dp n) Q) : q_Go Γ M d bc bs pc L (q_i n :: q_i dp :: q_r Γ a :: q_i sp :: q_r Γ a0 :: st) (K, S) Q := q_copy hd hp hlk w_native w_copyS w_sys hd1 hcat hK0 hK1 h1 h2 h3 h4 h5 h6 h7 kk
theorem p_max {idx : Nat} {a b : Int} {w : q_W} (hd : decode M.2.1 pc = .ok (.invokestatic idx, 3)) (hp : pc + 3 = pc') (hlk : Cond.methodLink M.1.cls idx Lib.Math.max.name ∈ q_words) (hd1 : 1 ≤ d) (hcat : (st.map fun v => v.category).sum ≤ 8) (ra : q_rg a) (rb : q_rg b) (k : ∀ y : Int, y = max a b → q_Go Γ M d bc bs pc' L (q_i y :: st) w Q) : q_Go Γ M d bc bs pc L (q_i b :: q_i a :: st) w Q := q_max hd hp hlk w_maxS w_math w_maxC hd1 hcat ra rb (k _ rfl)
theorem p_min {idx : Nat} {a b : Int} {w : q_W} (hd : decode M.2.1 pc = .ok (.invokestatic idx, 3)) (hp : pc + 3 = pc') (hlk : Cond.methodLink M.1.cls idx Lib.Math.min.name ∈ q_words) (hd1 : 1 ≤ d) (hcat : (st.map fun v => v.category).sum ≤ 8) (ra : q_rg a) (rb : q_rg b) (k : ∀ y : Int, y = min a b → q_Go Γ M d bc bs pc' L (q_i y :: st) w Q) : q_Go Γ M d bc bs pc L (q_i b :: q_i a :: st) w Q := q_min hd hp hlk w_minS w_math w_minC hd1 hcat ra rb (k _ rfl)
/-- returns of what is due -/
theorem p_iret {z z0 : Int} {w w0 : q_W} (hd : decode M.2.1 pc = .ok (.ireturn, 1)) (hr : M.2.2.2 = some .int) (hz : z = z0) (hw : w = w0) : q_Go Γ M d bc bs pc L [q_i z] w (q_ev (some (q_i z0)) w0) := q_iret hd hr rfl ⟨by rw [hz], hw⟩
theorem p_zret {P : Prop} {z : Int} {w w0 : q_W} (hd : decode M.2.1 pc = .ok (.ireturn, 1)) (hr : M.2.2.2 = some .boolean) (hz : z = q_B P) (hw : w = w0) : q_Go Γ M d bc bs pc L [q_i z] w (q_ev (some (q_i (q_B P))) w0) := by
  subst hz
  exact q_iret hd hr (q_B_nar P) ⟨rfl, hw⟩
theorem p_vret {w w0 : q_W} (hd : decode M.2.1 pc = .ok (.return_, 1)) (hr : M.2.2.2 = none) (hw : w = w0) : q_Go Γ M d bc bs pc L [] w (q_ev none w0) := q_vret hd hr ⟨rfl, hw⟩
end PR
section PT
variable {Γ : q_G} {M : q_M} {d bc bs pc : Nat} {L : List (Nat × Value)} {st : List Value} {w : q_W} {Q : Option Value → q_W → Prop}
theorem p_top {z : Int} (k : ∀ y : Int, y = z → q_Go Γ M d bc bs pc L (q_i y :: st) w Q) : q_Go Γ M d bc bs pc L (q_i z :: st) w Q := k z rfl
theorem p_topL {z : Int64} (k : ∀ y : Int64, y = z → q_Go Γ M d bc bs pc L (.long y :: st) w Q) : q_Go Γ M d bc bs pc L (.long z :: st) w Q := k z rfl
theorem p_sub {L' : List (Nat × Value)} (ks : List Nat) (hL : lv_pick L ks = L') (k : q_Go Γ M d bc bs pc L' st w Q) : q_Go Γ M d bc bs pc L st w Q := q_sub (pc' := pc) ks hL k
end PT
section PU
variable {Γ : q_G} {M : q_M} {d bc bs pc pc' : Nat} {L : List (Nat × Value)} {st : List Value} {K : List q_K} {S : q_S} {Q : Option Value → q_W → Prop}
theorem p_getJ {idx ci k a : Nat} {kz : Int} {ty : FieldType} {fin : Bool} {fl : List Nat} (hd : decode M.2.1 pc = .ok (.getfield idx, 3)) (hp : pc + 3 = pc') (hF : q_F M.1.cls idx ci k ty fin) (hK : K[a]? = some (.inl (ci, fl))) (hf : fl[k]? = some 0) (hz : (k : Int) = kz) (kk : ∀ y : Int, y = S a kz → q_rg y → q_Go Γ M d bc bs pc' L (q_i y :: st) (K, S) Q) : q_Go Γ M d bc bs pc L (q_r Γ a :: st) (K, S) Q := by
  subst hz; exact p_getI hd hp hF hK hf kk
theorem p_putJ {idx ci k a : Nat} {kz : Int} {ty : FieldType} {fl : List Nat} {z : Int} (hd : decode M.2.1 pc = .ok (.putfield idx, 3)) (hp : pc + 3 = pc') (hF : q_F M.1.cls idx ci k ty false) (hK : K[a]? = some (.inl (ci, fl))) (hf : fl[k]? = some 0) (hkz : (k : Int) = kz) (hn : narrow ty (q_i z) = q_i z) (hfit : fits ty (q_i z) = true) (hz : q_rg z) (kk : q_Go Γ M d bc bs pc' L st (K, q_up S a kz z) Q) : q_Go Γ M d bc bs pc L (q_i z :: q_r Γ a :: st) (K, S) Q := by
  subst hkz; exact p_putI hd hp hF hK hf hn hfit hz kk
end PU
theorem q_up_eq {S : q_S} {a : Nat} {z v : Int} : q_up S a z v a z = v := by simp [q_up]
theorem q_up_nz {S : q_S} {a b : Nat} {z z' v : Int} (h : z' ≠ z) : q_up S a z v b z' = S b z' := by simp [q_up, h]
theorem q_cp_ne {S : q_S} {src dst : Nat} {sp dp n : Int} {k : Nat} (h : k ≠ dst) : q_cp S src dst sp dp n k = S k := by funext j; simp [q_cp, h]
theorem q_cp_0 {S : q_S} {src dst : Nat} {sp dp : Int} : S = q_cp S src dst sp dp 0 := by
  funext a j
  simp only [q_cp]
  rw [if_neg (by omega)]
/-- one place more of a copy into another array, or downwards in the same -/
theorem q_cp_s {S : q_S} {src dst : Nat} {sp dp k : Int} (h0 : 0 ≤ k) : q_up (q_cp S src dst sp dp k) dst (dp + k) (S src (sp + k)) = q_cp S src dst sp dp (k + 1) := by
  funext a j
  simp only [q_cp, q_up]
  by_cases ha : a = dst
  · subst ha
    by_cases hj : j = dp + k
    · subst hj
      rw [if_pos ⟨rfl, rfl⟩, if_pos ⟨rfl, by omega, by omega⟩]
      congr 1
      omega
    · rw [if_neg (fun h => hj h.2)]
      by_cases h2 : dp ≤ j ∧ j < dp + k
      · rw [if_pos ⟨rfl, h2⟩, if_pos ⟨rfl, by omega, by omega⟩]
      · rw [if_neg (fun h => h2 h.2), if_neg (fun h => h2 ⟨h.2.1, by omega⟩)]
  · rw [if_neg (fun h => ha h.1), if_neg (fun h => ha h.1), if_neg (fun h => ha h.1)]
theorem q_cp_hi {S : q_S} {src dst : Nat} {sp dp k j : Int} (h : dp + k ≤ j) : q_cp S src dst sp dp k dst j = S dst j := by
  simp only [q_cp]
  rw [if_neg (by omega)]
