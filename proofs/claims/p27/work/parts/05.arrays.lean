/-! arrays, tables, copies -/
section HA
variable {Γ : q_G} {M : q_M} {d bc bs pc pc' : Nat} {L : List (Nat × Value)} {st : List Value} {w : q_W} {Q : Option Value → q_W → Prop}
theorem q_up_ne {S : q_S} {a : Nat} {z v : Int} {k : Nat} (h : k ≠ a) : q_up S a z v k = S k := by funext j; simp [q_up, h]
theorem q_up_rg {S : q_S} {a : Nat} {z v : Int} (hS : ∀ k j, q_rg (S k j)) (hv : q_rg v) (k : Nat) (j : Int) : q_rg (q_up S a z v k j) := by
  unfold q_up
  split
  · exact hv
  · exact hS k j
theorem q_iald {a n : Nat} {z : Int} (hd : decode M.2.1 pc = .ok (.iaload, 1)) (hp : pc + 1 = pc') (hK : w.1[a]? = some (.inr (0, n))) (h0 : 0 ≤ z) (h1 : z < (n : Int)) (hn : n ≤ 2147483647) (kk : q_Go Γ M d bc bs pc' L (q_i (w.2 a z) :: st) w Q) : q_Go Γ M d bc bs pc L (q_i z :: q_r Γ a :: st) w Q := by
  subst hp
  intro p e R s m args below meth c H locs cells slots Z ls CC hc1 hs1 hW hS hl hr
  refine va_iald (ws := [(q_b Γ + a, .inl (q_cA Γ 0, n, .inl fun j => Int32.ofInt (w.2 a j)))]) CC.1 CC.2.1 CC.2.2.2.2.2.2.2.2.1.1 (q_P1 (hW.2.1 a _ hK)) 0 0 rfl rfl (q_in h0 h1 hn) hd ?_
  have e9 : Int32.ofInt (w.2 a ((Int32.ofInt z).toNatClampNeg : Nat)) = Int32.ofInt (w.2 a z) := by
    rw [q_cl h0 (by omega), Int.toNat_of_nonneg h0]
  rw [e9]
  exact kk p e R s m args below meth c H locs cells slots Z ls CC hc1 hs1 hW hS hl hr
theorem q_zald {a n : Nat} {z : Int} (hd : decode M.2.1 pc = .ok (.baload, 1)) (hp : pc + 1 = pc') (hK : w.1[a]? = some (.inr (1, n))) (h0 : 0 ≤ z) (h1 : z < (n : Int)) (hn : n ≤ 2147483647) (kk : q_Go Γ M d bc bs pc' L (q_i (w.2 a z) :: st) w Q) : q_Go Γ M d bc bs pc L (q_i z :: q_r Γ a :: st) w Q := by
  subst hp
  intro p e R s m args below meth c H locs cells slots Z ls CC hc1 hs1 hW hS hl hr
  refine va_zald (ws := [(q_b Γ + a, .inl (q_cA Γ 1, n, .inl fun j => Int32.ofInt (w.2 a j)))]) CC.1 CC.2.1 CC.2.2.2.2.2.2.2.2.1.1 (q_P1 (hW.2.1 a _ hK)) 0 1 rfl rfl (q_in h0 h1 hn) hd ?_
  have e9 : Int32.ofInt (w.2 a ((Int32.ofInt z).toNatClampNeg : Nat)) = Int32.ofInt (w.2 a z) := by
    rw [q_cl h0 (by omega), Int.toNat_of_nonneg h0]
  rw [e9]
  exact kk p e R s m args below meth c H locs cells slots Z ls CC hc1 hs1 hW hS hl hr
theorem q_cald {a n : Nat} {z : Int} (hd : decode M.2.1 pc = .ok (.caload, 1)) (hp : pc + 1 = pc') (hK : w.1[a]? = some (.inr (2, n))) (h0 : 0 ≤ z) (h1 : z < (n : Int)) (hn : n ≤ 2147483647) (kk : q_Go Γ M d bc bs pc' L (q_i (w.2 a z) :: st) w Q) : q_Go Γ M d bc bs pc L (q_i z :: q_r Γ a :: st) w Q := by
  subst hp
  intro p e R s m args below meth c H locs cells slots Z ls CC hc1 hs1 hW hS hl hr
  refine va_cald (ws := [(q_b Γ + a, .inl (q_cA Γ 2, n, .inl fun j => Int32.ofInt (w.2 a j)))]) CC.1 CC.2.1 CC.2.2.2.2.2.2.2.2.1.1 (q_P1 (hW.2.1 a _ hK)) 0 2 rfl rfl (q_in h0 h1 hn) hd ?_
  have e9 : Int32.ofInt (w.2 a ((Int32.ofInt z).toNatClampNeg : Nat)) = Int32.ofInt (w.2 a z) := by
    rw [q_cl h0 (by omega), Int.toNat_of_nonneg h0]
  rw [e9]
  exact kk p e R s m args below meth c H locs cells slots Z ls CC hc1 hs1 hW hS hl hr
theorem q_aald {a n : Nat} {z : Int} (hd : decode M.2.1 pc = .ok (.aaload, 1)) (hp : pc + 1 = pc') (hK : w.1[a]? = some (.inr (3, n))) (h0 : 0 ≤ z) (h1 : z < (n : Int)) (hn : n ≤ 2147483647) (h2 : 0 ≤ w.2 a z) (kk : q_Go Γ M d bc bs pc' L (q_r Γ (w.2 a z).toNat :: st) w Q) : q_Go Γ M d bc bs pc L (q_i z :: q_r Γ a :: st) w Q := by
  subst hp
  intro p e R s m args below meth c H locs cells slots Z ls CC hc1 hs1 hW hS hl hr
  refine va_aldq (ws := [(q_b Γ + a, .inl (q_cA Γ 3, n, .inr (.inr (.inr (.inr fun j => q_el (q_b Γ) (w.2 a j))))))]) CC.1 CC.2.1 CC.2.2.2.2.2.2.2.2.1.1 (q_P1 (hW.2.1 a _ hK)) 0 3 rfl rfl (q_in h0 h1 hn) hd ?_
  have e9 : va_rf (q_el (q_b Γ) (w.2 a ((Int32.ofInt z).toNatClampNeg : Nat))) = q_r Γ (w.2 a z).toNat := by
    rw [q_cl h0 (by omega), Int.toNat_of_nonneg h0]
    unfold q_el
    rw [if_neg (by omega)]
    rfl
  rw [e9]
  exact kk p e R s m args below meth c H locs cells slots Z ls CC hc1 hs1 hW hS hl hr
theorem q_upd_at {t a n : Nat} {S : q_S} {z v : Int} {H1 : Heap} {cA : ClassId} (ht : cA = q_cA Γ t) (h0 : 0 ≤ z) (ht3 : t < 3)
    (e1 : H1[q_b Γ + a]? = some (arrV cA n (updV (fun j => .int (Int32.ofInt (S a j))) z.toNat (q_i v)))) : va_at (q_D Γ) vwCl (q_b Γ + a, q_ent Γ (.inr (t, n)) (q_up S a z v a)) H1 := by
  subst ht
  have e3 : va_at (q_D Γ) vwCl (q_b Γ + a, .inl (q_cA Γ t, n, .inl fun j => Int32.ofInt (q_up S a z v a j))) H1 := by
    show H1[q_b Γ + a]? = some (vp_cell _ _)
    rw [vp_cell_i, e1]
    congr 2
    funext j
    simp only [updV, q_up]
    by_cases hj : j = z.toNat
    · rw [if_pos hj, if_pos ⟨trivial, by omega⟩]; rfl
    · rw [if_neg hj, if_neg (fun h => hj (by have := h.2; omega))]
  match t, ht3 with
  | 0, _ => exact e3
  | 1, _ => exact e3
  | 2, _ => exact e3
theorem q_iast {a n : Nat} {z v : Int} (hd : decode M.2.1 pc = .ok (.iastore, 1)) (hp : pc + 1 = pc') (hK : w.1[a]? = some (.inr (0, n))) (h0 : 0 ≤ z) (h1 : z < (n : Int)) (hn : n ≤ 2147483647) (hv : q_rg v) (kk : q_Go Γ M d bc bs pc' L st (w.1, q_up w.2 a z v) Q) : q_Go Γ M d bc bs pc L (q_i v :: q_i z :: q_r Γ a :: st) w Q := by
  subst hp
  intro p e R s m args below meth c H locs cells slots Z ls CC hc1 hs1 hW hS hl hr
  have e0 : H[q_b Γ + a]? = some (arrV (q_cA Γ 0) n (fun j => .int (Int32.ofInt (w.2 a j)))) := hW.2.1 a _ hK
  refine W.iast CC.1 CC.2.1 e0 ((CC.2.2.2.2.2.2.2.2.1.1.2 0 _ rfl).1 n _) (fun q => by cases q) (by rw [arrV_size]; exact q_in h0 h1 hn) rfl rfl hd fun H1 e1 z1 oq => ?_
  rw [arrV_store, q_cl h0 (by omega)] at e1
  exact kk p e R s m args below meth c H1 _ cells slots Z ls CC hc1 hs1 (hW.upd hK (q_up w.2 a z v) z1 oq (q_upd_at rfl h0 (by omega) e1) (fun k hk => q_up_ne hk) (fun j => q_up_rg hW.2.2 hv a j)) (hS.put z1 oq (show q_b Γ ≤ q_b Γ + a by omega)) hl hr
theorem q_zast {a n : Nat} {z v : Int} (hd : decode M.2.1 pc = .ok (.bastore, 1)) (hp : pc + 1 = pc') (hK : w.1[a]? = some (.inr (1, n))) (h0 : 0 ≤ z) (h1 : z < (n : Int)) (hn : n ≤ 2147483647) (hv : v = 0 ∨ v = 1) (kk : q_Go Γ M d bc bs pc' L st (w.1, q_up w.2 a z v) Q) : q_Go Γ M d bc bs pc L (q_i v :: q_i z :: q_r Γ a :: st) w Q := by
  subst hp
  intro p e R s m args below meth c H locs cells slots Z ls CC hc1 hs1 hW hS hl hr
  have e0 : H[q_b Γ + a]? = some (arrV (q_cA Γ 1) n (fun j => .int (Int32.ofInt (w.2 a j)))) := hW.2.1 a _ hK
  refine W.zast CC.1 CC.2.1 e0 ((CC.2.2.2.2.2.2.2.2.1.1.2 1 _ rfl).1 n _) (fun q => by cases q) (by rw [arrV_size]; exact q_in h0 h1 hn) rfl rfl hd fun H1 e1 z1 oq => ?_
  have e2 : H1[q_b Γ + a]? = some (arrV (q_cA Γ 1) n (updV (fun j => .int (Int32.ofInt (w.2 a j))) z.toNat (q_i v))) := by
    rw [e1, q_cl h0 (by omega), ← arrV_store]
    rcases hv with rfl | rfl <;> rfl
  exact kk p e R s m args below meth c H1 _ cells slots Z ls CC hc1 hs1 (hW.upd hK (q_up w.2 a z v) z1 oq (q_upd_at rfl h0 (by omega) e2) (fun k hk => q_up_ne hk) (fun j => q_up_rg hW.2.2 (by omega) a j)) (hS.put z1 oq (show q_b Γ ≤ q_b Γ + a by omega)) hl hr
theorem q_cast {a n : Nat} {z v : Int} (hd : decode M.2.1 pc = .ok (.castore, 1)) (hp : pc + 1 = pc') (hK : w.1[a]? = some (.inr (2, n))) (h0 : 0 ≤ z) (h1 : z < (n : Int)) (hn : n ≤ 2147483647) (hv0 : 0 ≤ v) (hv1 : v < 65536) (kk : q_Go Γ M d bc bs pc' L st (w.1, q_up w.2 a z v) Q) : q_Go Γ M d bc bs pc L (q_i v :: q_i z :: q_r Γ a :: st) w Q := by
  subst hp
  intro p e R s m args below meth c H locs cells slots Z ls CC hc1 hs1 hW hS hl hr
  have e0 : H[q_b Γ + a]? = some (arrV (q_cA Γ 2) n (fun j => .int (Int32.ofInt (w.2 a j)))) := hW.2.1 a _ hK
  refine W.cast CC.1 CC.2.1 e0 ((CC.2.2.2.2.2.2.2.2.1.1.2 2 _ rfl).1 n _) (fun q => by cases q) (by rw [arrV_size]; exact q_in h0 h1 hn) rfl rfl hd fun H1 e1 z1 oq => ?_
  have e2 : H1[q_b Γ + a]? = some (arrV (q_cA Γ 2) n (updV (fun j => .int (Int32.ofInt (w.2 a j))) z.toNat (q_i v))) := by
    rw [e1, q_cl h0 (by omega), ← arrV_store]
    have e5 : Int32.ofInt v = nI v.toNat := by
      show _ = Int32.ofNat _
      rw [← Int32.ofInt_eq_ofNat, Int.toNat_of_nonneg hv0]
    have e4 : narrow .char (.int (Int32.ofInt v)) = .int (Int32.ofInt v) := by
      rw [e5]; exact (pk_charN (by omega)).1
    show some (Cell.setSlot _ _ (narrow .char (.int (Int32.ofInt v)))) = _
    rw [e4]
    rfl
  exact kk p e R s m args below meth c H1 _ cells slots Z ls CC hc1 hs1 (hW.upd hK (q_up w.2 a z v) z1 oq (q_upd_at rfl h0 (by omega) e2) (fun k hk => q_up_ne hk) (fun j => q_up_rg hW.2.2 (by omega) a j)) (hS.put z1 oq (show q_b Γ ≤ q_b Γ + a by omega)) hl hr
/-- a reference to a field into an array of them -/
theorem q_aast {a n i : Nat} {z : Int} {fl : List Nat} (hd : decode M.2.1 pc = .ok (.aastore, 1)) (hp : pc + 1 = pc') (hK : w.1[a]? = some (.inr (3, n))) (h0 : 0 ≤ z) (h1 : z < (n : Int)) (hn : n ≤ 2147483647) (hi : w.1[i]? = some (.inl (0, fl))) (hi2 : i ≤ 2147483647) (kk : q_Go Γ M d bc bs pc' L st (w.1, q_up w.2 a z i) Q) : q_Go Γ M d bc bs pc L (q_r Γ i :: q_i z :: q_r Γ a :: st) w Q := by
  subst hp
  intro p e R s m args below meth c H locs cells slots Z ls CC hc1 hs1 hW hS hl hr
  have hKk := CC.2.2.2.2.2.2.2.2.1.1
  have e0 : H[q_b Γ + a]? = some (arrV (q_cA Γ 3) n (fun j => va_rf (q_el (q_b Γ) (w.2 a j)))) := hW.2.1 a _ hK
  obtain ⟨r', hr', cellV, g1, g2, g3, -⟩ := hW.2.1 i _ hi
  have hcls := (hKk.1 0 _ rfl).2
  obtain ⟨kA, comp, k1, k2, k3, -⟩ := (hKk.2 3 _ rfl).2
  have hcomp : comp = (q_D Γ).1 0 := Option.some.inj (k3.symm.trans hcls.1)
  subst hcomp
  obtain ⟨kC, hkC, -⟩ := hcls.2
  refine W.aast CC.1 CC.2.1 e0 (fun q h => by cases h) (fun h => by cases h) k1 k2 rfl hkC ⟨q_nn h0 (by omega), by rw [arrV_size, q_cl h0 (by omega)]; omega⟩ g1 (fun q h => by rw [g3] at h; cases h) (by rw [g2]; exact hkC) (by rw [g2]; exact va_assign hcls) rfl rfl hd fun H1 e1 z1 oq => ?_
  refine kk p e R s m args below meth c H1 _ cells slots Z ls CC hc1 hs1 (hW.upd hK (q_up w.2 a z i) z1 oq ?_ (fun k hk => q_up_ne hk) (fun j => q_up_rg hW.2.2 (by omega) a j)) (hS.put z1 oq (show q_b Γ ≤ q_b Γ + a by omega)) hl hr
  show H1[q_b Γ + a]? = some (vp_cell (q_cA Γ 3) (n, .inr (.inr (.inr (.inr fun j => q_el (q_b Γ) (q_up w.2 a z i a j))))))
  rw [e1, vp_cell_q, arrV_store, q_cl h0 (by omega)]
  congr 2
  funext j
  simp only [updV, q_up]
  by_cases hj : j = z.toNat
  · rw [if_pos hj, if_pos ⟨trivial, by omega⟩]
    simp only [q_el]
    rw [if_neg (by omega)]
    simp [va_rf]
  · rw [if_neg hj, if_neg (fun h => hj (by have := h.2; omega))]
theorem q_alen {a t n : Nat} (hd : decode M.2.1 pc = .ok (.arraylength, 1)) (hp : pc + 1 = pc') (ht : t < 4) (hK : w.1[a]? = some (.inr (t, n))) (kk : q_Go Γ M d bc bs pc' L (q_i n :: st) w Q) : q_Go Γ M d bc bs pc L (q_r Γ a :: st) w Q := by
  subst hp
  intro p e R s m args below meth c H locs cells slots Z ls CC hc1 hs1 hW hS hl hr
  exact va_alen (ws := [(q_b Γ + a, q_ent Γ (.inr (t, n)) (w.2 a))]) CC.1 CC.2.1 CC.2.2.2.2.2.2.2.2.1.1 (q_P1 (hW.2.1 a _ hK)) 0 t rfl (ty := q_ty t) (by match t, ht with | 0, _ => rfl | 1, _ => rfl | 2, _ => rfl | 3, _ => rfl) (v := Int32.ofInt n) (by rw [Int32.ofInt_eq_ofNat]) hd (kk p e R s m args below meth c H locs cells slots Z ls CC hc1 hs1 hW hS hl hr)
/-- the static tables, and the script -/
theorem q_gets {idx i : Nat} (hd : decode M.2.1 pc = .ok (.getstatic idx, 3)) (hp : pc + 3 = pc') (hi : i < 3) (hlk : Cond.fieldLink M.1.cls idx (q_stn i).1 (q_stn i).2 "[I" ∈ q_words) (kk : q_Go Γ M d bc bs pc' L (.ref (q_ad Γ i) :: st) w Q) : q_Go Γ M d bc bs pc L st w Q := by
  subst hp
  intro p e R s m args below meth c H locs cells slots Z ls CC hc1 hs1 hW hS hl hr
  exact va_gets CC.1 CC.2.1 (CC.2.2.2.2.2.2.2.2.1.2.2.1 i hi) hS CC.2.2.2.1 (CC.2.2.2.2.2.2.2.1 _ hlk) (fun _ h => h) hd (kk p e R s m args below meth c H locs cells slots Z ls CC hc1 hs1 hW hS hl hr)
theorem q_tald {i : Nat} {z : Int} (hd : decode M.2.1 pc = .ok (.iaload, 1)) (hp : pc + 1 = pc') (hi : i < 4) (h0 : 0 ≤ z) (h1 : z < ((q_tab Γ i).1 : Int)) (h2 : z ≤ 2147483647) (kk : q_Go Γ M d bc bs pc' L (q_i ((q_tab Γ i).2 z.toNat) :: st) w Q) : q_Go Γ M d bc bs pc L (q_i z :: .ref (q_ad Γ i) :: st) w Q := by
  subst hp
  intro p e R s m args below meth c H locs cells slots Z ls CC hc1 hs1 hW hS hl hr
  exact va_ti CC.1 CC.2.1 (CC.2.2.2.2.2.2.2.2.1.2.1 i hi) hS (vp_in_iff.mpr (by rw [q_ti ⟨by omega, h2⟩]; exact ⟨h0, h1⟩)) (by rw [q_cl h0 h2]) hd (kk p e R s m args below meth c H locs cells slots Z ls CC hc1 hs1 hW hS hl hr)
theorem q_tlen {i : Nat} (hd : decode M.2.1 pc = .ok (.arraylength, 1)) (hp : pc + 1 = pc') (hi : i < 4) (kk : q_Go Γ M d bc bs pc' L (q_i ((q_tab Γ i).1 : Nat) :: st) w Q) : q_Go Γ M d bc bs pc L (.ref (q_ad Γ i) :: st) w Q := by
  subst hp
  intro p e R s m args below meth c H locs cells slots Z ls CC hc1 hs1 hW hS hl hr
  exact va_tlen CC.1 CC.2.1 (CC.2.2.2.2.2.2.2.2.1.2.1 i hi) hS (v := Int32.ofInt ((q_tab Γ i).1 : Nat)) (by rw [Int32.ofInt_eq_ofNat]) hd (kk p e R s m args below meth c H locs cells slots Z ls CC hc1 hs1 hW hS hl hr)
end HA
