/-! making objects and arrays: the cell with the next number -/
def q_nw (S : q_S) (n : Nat) (v : Int) : q_S := fun a' z' => if a' = n then v else S a' z'
theorem q_nw_ne {S : q_S} {n : Nat} {v : Int} {k : Nat} (h : k ≠ n) : q_nw S n v k = S k := by funext j; simp [q_nw, h]
theorem q_nw_eq {S : q_S} {n : Nat} {v : Int} : q_nw S n v n = fun _ => v := by funext j; simp [q_nw]
section HM
variable {Γ : q_G} {M : q_M} {d bc bs bc2 bs2 pc pc' : Nat} {L : List (Nat × Value)} {st : List Value} {w : q_W} {Q : Option Value → q_W → Prop}
theorem q_new {idx ci N : Nat} {C : String} {T : u_T} (fl : List Nat) (ty : Nat → FieldType) (hd : decode M.2.1 pc = .ok (.new idx, 3)) (hp : pc + 3 = pc') (hC : q_Cl ci C T N) (hty : ∀ k, k < N → parseFieldDescriptor (T k).2.2.1 = some (ty k)) (hcl : Cond.classLink M.1.cls idx C ∈ q_words) (hinst : Cond.instantiable C N ∈ q_words) (hini : Cond.initialized C ∈ q_words)
    (hfl : ∀ j, j < N → defaultValue (ty j) = vp_V (q_fvs (q_b Γ) fl (fun _ => 0)) j) (hbc : bc = 1 + bc2) (hbs : bs = N + bs2)
    (kk : q_Go Γ M d bc2 bs2 pc' L (q_r Γ w.1.length :: st) (w.1 ++ [.inl (ci, fl)], q_nw w.2 w.1.length 0) Q) : q_Go Γ M d bc bs pc L st w Q := by
  subst hp; subst hbc; subst hbs
  obtain ⟨hc, hin, -, -⟩ := hC
  intro p e R s m args below meth c H locs cells slots Z ls CC hc1 hs1 hW hS hl hr
  have hts := CC.2.2.2.2.2.2.2.1
  have hKn := CC.2.2.2.2.2.2.2.2.1.1.1 ci _ hc
  refine W.newcK CC.1 CC.2.1 CC.2.2.2.1 (hts _ hcl) (hts _ hinst) (hts _ hini) rfl hd (by omega) (by omega) hKn.2.1 rfl fun H1 kC hkC e1 z1 o1 => ?_
  have hz : H.size = q_b Γ + w.1.length := hW.1
  have k1 := kk p e R s m args below meth c H1 locs (cells + 1) (slots + N) Z ls CC (by omega) (by omega)
    (hW.push (q_nw w.2 w.1.length 0) z1 o1 (by
      rw [q_nw_eq]
      refine ⟨_, hc, ?_⟩
      rw [← hz]
      exact (u_born ty hts hin hKn hkC e1 hty).to hfl) (fun k hk => q_nw_ne hk) (fun j => by rw [q_nw_eq]; exact q_rg0))
    ⟨Nat.le_trans hS.1 (by omega), fun x h1 h2 => (o1 x (Nat.lt_of_lt_of_le h1 hS.1)).trans (hS.2.1 x h1 h2), hS.2.2⟩ hl
    (fun v2 pc2 w2 H2 locs2 cells2 slots2 ls2 a1 a2 => hr v2 pc2 w2 H2 locs2 cells2 slots2 ls2 (by omega) (by omega))
  rw [hz]
  exact k1
theorem q_newa {atype : ArrayType} {n : Int} {N t : Nat} (hd : decode M.2.1 pc = .ok (.newarray atype, 2)) (hp : pc + 2 = pc') (ht : t < 3) (hty : newarray.typeOf atype = q_ty t) (harr : Cond.arrayClass (newarray.typeOf atype) ∈ q_words) (hN : n = (N : Int)) (hN2 : N ≤ 1000000) (hbc : bc = 1 + bc2) (hbs : bs = N + bs2)
    (kk : q_Go Γ M d bc2 bs2 pc' L (q_r Γ w.1.length :: st) (w.1 ++ [.inr (t, N)], q_nw w.2 w.1.length 0) Q) : q_Go Γ M d bc bs pc L (q_i n :: st) w Q := by
  subst hp; subst hbc; subst hbs; subst hN
  intro p e R s m args below meth c H locs cells slots Z ls CC hc1 hs1 hW hS hl hr
  have hts := CC.2.2.2.2.2.2.2.1
  have hKk := CC.2.2.2.2.2.2.2.2.1.1
  have hcb : componentBytes (newarray.typeOf atype) ≤ 8 := by cases atype <;> decide
  refine va_newaK CC.1 CC.2.1 (hts _ harr) rfl hd (n := Int32.ofInt (N : Int)) (N := N) (rest := st) rfl (q_nn (by omega) (by omega)) (by rw [q_cl (by omega) (by omega)]; omega) (Nat.le_trans (Nat.mul_le_mul hN2 hcb) (by decide)) (by omega) (by omega) rfl fun H1 cA e1 z1 o1 hAr hNm => ?_
  have hz : H.size = q_b Γ + w.1.length := hW.1
  have hcA : cA = q_cA Γ t := by
    rw [hty] at hNm
    match t, ht with
    | 0, _ => exact Option.some.inj (hNm.symm.trans (hKk.2 0 _ rfl).2)
    | 1, _ => exact Option.some.inj (hNm.symm.trans (hKk.2 1 _ rfl).2)
    | 2, _ => exact Option.some.inj (hNm.symm.trans (hKk.2 2 _ rfl).2)
  subst hcA
  have k1 := kk p e R s m args below meth c H1 locs (cells + 1) (slots + N) Z ls CC (by omega) (by omega)
    (hW.push (q_nw w.2 w.1.length 0) z1 o1 (by
      rw [q_nw_eq, ← hz]
      have e3 : va_at (q_D Γ) vwCl (H.size, .inl (q_cA Γ t, N, .inl fun _ => Int32.ofInt 0)) H1 := by
        show H1[H.size]? = some (vp_cell _ _)
        rw [e1, hty, vp_cell_i]
        match t, ht with
        | 0, _ => rfl
        | 1, _ => rfl
        | 2, _ => rfl
      match t, ht with
      | 0, _ => exact e3
      | 1, _ => exact e3
      | 2, _ => exact e3) (fun k hk => q_nw_ne hk) (fun j => by rw [q_nw_eq]; exact q_rg0))
    ⟨Nat.le_trans hS.1 (by omega), fun x h1 h2 => (o1 x (Nat.lt_of_lt_of_le h1 hS.1)).trans (hS.2.1 x h1 h2), hS.2.2⟩ hl
    (fun v2 pc2 w2 H2 locs2 cells2 slots2 ls2 a1 a2 => hr v2 pc2 w2 H2 locs2 cells2 slots2 ls2 (by omega) (by omega))
  rw [hz]
  exact k1
theorem q_newq {idx : Nat} {n : Int} {N : Nat} (hd : decode M.2.1 pc = .ok (.anewarray idx, 3)) (hp : pc + 3 = pc') (hcl : Cond.classLink M.1.cls idx "ShadowRows$Field" ∈ q_words) (hN : n = (N : Int)) (hN2 : N ≤ 1000000) (hbc : bc = 1 + bc2) (hbs : bs = N + bs2)
    (kk : q_Go Γ M d bc2 bs2 pc' L (q_r Γ w.1.length :: st) (w.1 ++ [.inr (3, N)], q_nw w.2 w.1.length (-1)) Q) : q_Go Γ M d bc bs pc L (q_i n :: st) w Q := by
  subst hp; subst hbc; subst hbs; subst hN
  intro p e R s m args below meth c H locs cells slots Z ls CC hc1 hs1 hW hS hl hr
  have hts := CC.2.2.2.2.2.2.2.1
  have hKk := CC.2.2.2.2.2.2.2.2.1.1
  have hnn : (Int32.ofInt (N : Int)).toNatClampNeg = N := by rw [q_cl (by omega) (by omega)]; omega
  refine W.anew CC.1 CC.2.1 CC.2.2.2.1 (hts _ hcl) (va_AO.use CC.2.2.2.2.2.2.2.2.1.2.2.2.2) rfl hd (n := Int32.ofInt (N : Int)) (rest := st) rfl (q_nn (by omega) (by omega)) (by rw [hnn]; omega) (by omega) (by omega) fun cA kA comp f1 f2 f3 f4 => ?_
  have hz : H.size = q_b Γ + w.1.length := hW.1
  have hcA : cA = q_cA Γ 3 := by
    obtain ⟨_, _, _, _, _, h4⟩ := (hKk.2 3 _ rfl).2
    exact Option.some.inj (f1.symm.trans h4)
  subst hcA
  rw [hnn]
  generalize hH1 : H.push ({ cls := q_cA Γ 3, slots := Array.replicate N .null, vm := .none } : Cell) = H1
  have z1 : H1.size = H.size + 1 := by rw [← hH1, Array.size_push]
  have e1 : H1[H.size]? = some (arrV (q_cA Γ 3) N (fun _ => .null)) := by rw [← hH1, Array.getElem?_push_size, ← arrV_new]
  have o1 : ∀ q : Nat, q < H.size → H1[q]? = H[q]? := fun q hq => by rw [← hH1, Array.getElem?_push, if_neg (Nat.ne_of_lt hq)]
  have k1 := kk p e R s m args below meth c H1 locs (cells + 1) (slots + N) Z ls CC (by omega) (by omega)
    (hW.push (q_nw w.2 w.1.length (-1)) z1 o1 (by
      rw [q_nw_eq, ← hz]
      show H1[H.size]? = some (vp_cell (q_cA Γ 3) (N, .inr (.inr (.inr (.inr fun _ => q_el (q_b Γ) (-1))))))
      rw [e1, vp_cell_q]
      rfl) (fun k hk => q_nw_ne hk) (fun j => by rw [q_nw_eq]; show q_rg (-1); exact ⟨by decide, by decide⟩))
    ⟨Nat.le_trans hS.1 (by omega), fun x h1 h2 => (o1 x (Nat.lt_of_lt_of_le h1 hS.1)).trans (hS.2.1 x h1 h2), hS.2.2⟩ hl
    (fun v2 pc2 w2 H2 locs2 cells2 slots2 ls2 a1 a2 => hr v2 pc2 w2 H2 locs2 cells2 slots2 ls2 (by omega) (by omega))
  rw [hz]
  exact k1
end HM
