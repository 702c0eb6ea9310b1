/-! the start: what the tables and the Statement's words give -/
theorem e_arr {s : State} {args : Array Value} {ty : FieldType} (h : (Cond.arrayClass ty).before args s = true) : ∃ cA : ClassId, ArrOfT s cA ty ∧ s.vm.findClass ("[" ++ ty.toString) = some cA := by
  obtain ⟨cA, kA, comp, h1, h2, h3⟩ := Cond.arrayClass_spec h
  exact ⟨cA, fun n z => ⟨fun k h => (by cases h), kA, h2, comp, h3⟩, h1⟩
theorem e_arrO {s : State} {args : Array Value} {C : String} (h : (Cond.arrayOver (.object C)).before args s = true) : ∃ cA : ClassId, ArrOfT s cA (.object C) ∧ va_RA s cA (.object C) := by
  obtain ⟨comp, c, k, h1, h2, h3, h4, h5⟩ := Cond.arrayOver_spec h
  exact ⟨c, fun n z => ⟨fun k h => (by cases h), k, h3, comp, h4⟩, k, comp, h3, h4, h1, h5⟩
theorem e_ws {w : Cond} (h : w ∈ q_words) : w ∈ lw_tbl := (List.mem_filter.mp h).1
theorem e_kn {s : State} {args : Array Value} (hq : ∀ w ∈ q_words, w.before args s = true) : ∃ D : va_G, ∀ (k : Nat) (q : vw_C), vwCl[k]? = some q → u_Kn s q.1 q.2.1 q.2.2 (D.1 k) (D.2 k) := by
  have h : ∀ k : Nat, ∃ x : ClassId × (Nat → Nat), ∀ q : vw_C, vwCl[k]? = some q → u_Kn s q.1 q.2.1 q.2.2 x.1 x.2 := by
    intro k
    match k with
    | 0 => obtain ⟨c, i, g⟩ := u_known hq kX0.2.1 (hq _ w_new_X0); exact ⟨(c, i), fun q hq => by cases hq; exact g⟩
    | 1 => obtain ⟨c, i, g⟩ := u_known hq kX1.2.1 (hq _ w_new_X1); exact ⟨(c, i), fun q hq => by cases hq; exact g⟩
    | 2 => obtain ⟨c, i, g⟩ := u_known hq kX2.2.1 (hq _ w_new_X2); exact ⟨(c, i), fun q hq => by cases hq; exact g⟩
    | 3 => obtain ⟨c, i, g⟩ := u_known hq kX3.2.1 (hq _ w_new_X3); exact ⟨(c, i), fun q hq => by cases hq; exact g⟩
    | 4 => obtain ⟨c, i, g⟩ := u_known hq kX4.2.1 (hq _ w_new_X4); exact ⟨(c, i), fun q hq => by cases hq; exact g⟩
    | 5 => obtain ⟨c, i, g⟩ := u_known hq kX5.2.1 (hq _ w_new_X5); exact ⟨(c, i), fun q hq => by cases hq; exact g⟩
    | 6 => obtain ⟨c, i, g⟩ := u_known hq kX6.2.1 (hq _ w_new_X6); exact ⟨(c, i), fun q hq => by cases hq; exact g⟩
    | 7 => obtain ⟨c, i, g⟩ := u_known hq kX7.2.1 (hq _ w_new_X7); exact ⟨(c, i), fun q hq => by cases hq; exact g⟩
    | 8 => obtain ⟨c, i, g⟩ := u_known hq kX8.2.1 (hq _ w_new_X8); exact ⟨(c, i), fun q hq => by cases hq; exact g⟩
    | k + 9 => obtain ⟨c, i, g⟩ := u_known hq kX8.2.1 (hq _ w_new_X8); exact ⟨(c, i), fun q hq => absurd hq (by intro e; cases e)⟩
  obtain ⟨f, hf⟩ := Classical.axiomOfChoice h
  exact ⟨(fun k => (f k).1, fun k => (f k).2), hf⟩
theorem e_ars {s : State} {args : Array Value} (hq : ∀ w ∈ lw_tbl, w.before args s = true) : ∃ cA : Nat → ClassId, ∀ (k : Nat) (q : ClassId × FieldType), [(cA 0, q_ty 0), (cA 1, q_ty 1), (cA 2, q_ty 2), (cA 3, q_ty 3)][k]? = some q → ArrOfT s q.1 q.2 ∧ va_RA s q.1 q.2 := by
  obtain ⟨c0, a0, b0⟩ := e_arr (hq _ (e_ws w_arr_int))
  obtain ⟨c1, a1, b1⟩ := e_arr (hq _ (e_ws w_arr_boolean))
  obtain ⟨c2, a2, b2⟩ := e_arr (hq _ (e_ws w_arr_char))
  obtain ⟨c3, a3, b3⟩ := e_arrO (hq (Cond.arrayOver (.object "ShadowRows$Field")) (by decide +kernel))
  refine ⟨fun k => if k = 0 then c0 else if k = 1 then c1 else if k = 2 then c2 else c3, fun k q h => ?_⟩
  match k, h with
  | 0, h => cases h; exact ⟨a0, b0⟩
  | 1, h => cases h; exact ⟨a1, b1⟩
  | 2, h => cases h; exact ⟨a2, b2⟩
  | 3, h => cases h; exact ⟨a3, b3⟩
  | k + 4, h => exact absurd h (by intro e; cases e)
theorem e_scr {b L : Nat} {xs : Nat → Int32} {s : State} {A : Nat → Prop} (h : va_X b L xs s s.heap) (hA : ¬ A b) : va_T .int b L (fun j => q_i (xs j).toInt) A s s.heap := by
  obtain ⟨scr, h1, h2, h3, h4, h5⟩ := h
  refine ⟨scr, h1, h2, h3, Nat.le_of_eq h4.symm, by rw [h4], fun j hj => ?_, hA⟩
  rw [h5 j hj]
  show some (Value.int (xs j)) = some (.int (Int32.ofInt (xs j).toInt))
  rw [q_ot]
theorem e_tab {args : Array Value} {s : State} {C n : String} {N : Nat} {zs : List Int} {A : Nat → Prop} (hN : N < 2 ^ 31) (hl : (Cond.laysStatic C n "[I").before args s = true) (hini : (Cond.initialized C).before args s = true) (harr : (Cond.arrayOf (.static C n "[I") .int).before args s = true) (hlen : (Cond.eq (.length (.static C n "[I")) (.int (Int32.ofNat N))).before args s = true)
    (hel : ∀ j : Nat, j < N → (Cond.eq (.elem (.static C n "[I") (.int (Int32.ofNat j))) (.int (Int32.ofInt (zs.getD j 0)))).before args s = true) (hA : ∀ a : Nat, a < s.heap.size → ¬ A a) : ∃ t : Nat, va_T .int t N (fun j => q_i (zs.getD j 0)) A s s.heap ∧ va_Z C n "[I" (.ref t) A s s.heap := by
  obtain ⟨t, h1, h2⟩ := va_Tof (f := fun j => q_i (zs.getD j 0)) (A := A) hN harr (va_eqt hlen) (fun j hj => va_eqt (hel j hj)) hA
  exact ⟨t, h2, va_Zof hl hini h1 hA⟩
theorem e_nest {w : Cond} (h : q_nest w = true) : w.onTables = true := by
  cases w <;> first | rfl | exact absurd h (by simp [q_nest])
