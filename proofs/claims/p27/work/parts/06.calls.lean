/-! copies, making, returns, calls -/
section HC
variable {Γ : q_G} {M : q_M} {d bc bs pc pc' : Nat} {L : List (Nat × Value)} {st : List Value} {w : q_W} {Q : Option Value → q_W → Prop}
theorem q_fits_int (x : Int32) : fits .int (.int x) = true := rfl
theorem q_copy {idx a0 a n0 n1 : Nat} {sp dp n : Int} (hd : decode M.2.1 pc = .ok (.invokestatic idx, 3)) (hp : pc + 3 = pc') (hlk : Cond.methodLink M.1.cls idx arraycopyName ∈ q_words) (hnat : Cond.native arraycopyName ∈ q_words) (hstat : Cond.static arraycopyName ∈ q_words) (hini : Cond.initialized "java/lang/System" ∈ q_words) (hd1 : 1 ≤ d) (hcat : (st.map fun v => v.category).sum ≤ 8)
    (hK0 : w.1[a0]? = some (.inr (0, n0))) (hK1 : w.1[a]? = some (.inr (0, n1))) (h1 : 0 ≤ sp) (h2 : 0 ≤ dp) (h3 : 0 ≤ n) (h4 : sp + n ≤ (n0 : Int)) (h5 : dp + n ≤ (n1 : Int)) (h6 : n0 ≤ 2147483647) (h7 : n1 ≤ 2147483647)
    (kk : q_Go Γ M d bc bs pc' L st (w.1, q_cp w.2 a0 a sp dp n) Q) : q_Go Γ M d bc bs pc L (q_i n :: q_i dp :: q_r Γ a :: q_i sp :: q_r Γ a0 :: st) w Q := by
  subst hp
  intro p e R s m args below meth c H locs cells slots Z ls CC hc1 hs1 hW hS hl hr
  have hK := CC.2.2.2.2.2.2.2.2.1.1
  have hts := CC.2.2.2.2.2.2.2.1
  have e0 : H[q_b Γ + a0]? = some (arrV (q_cA Γ 0) n0 (fun j => .int (Int32.ofInt (w.2 a0 j)))) := hW.2.1 a0 _ hK0
  have e1 : H[q_b Γ + a]? = some (arrV (q_cA Γ 0) n1 (fun j => .int (Int32.ofInt (w.2 a j)))) := hW.2.1 a _ hK1
  obtain ⟨-, k0, hk0, cm0, hkk0⟩ := (hK.2 0 _ rfl).1 n0 (fun j => .int (Int32.ofInt (w.2 a0 j)))
  have hsp := q_cl (z := sp) h1 (by omega)
  have hdp := q_cl (z := dp) h2 (by omega)
  have hnn := q_cl (z := n) h3 (by omega)
  have tsp := q_ti (z := sp) ⟨by omega, by omega⟩
  have tdp := q_ti (z := dp) ⟨by omega, by omega⟩
  have tnn := q_ti (z := n) ⟨by omega, by omega⟩
  intro T hT X
  obtain ⟨vm', X', step⟩ := X.arraycopy CC.1 CC.2.2.2.1 (hts _ hlk) (hts _ hnat) (hts _ hstat) (hts _ hini) (src := q_b Γ + a0) (dst := q_b Γ + a) (cs := arrV (q_cA Γ 0) n0 (fun j => .int (Int32.ofInt (w.2 a0 j)))) (cd := arrV (q_cA Γ 0) n1 (fun j => .int (Int32.ofInt (w.2 a j)))) (srcPos := Int32.ofInt sp) (destPos := Int32.ofInt dp) (n := Int32.ofInt n) (by rw [hT]; exact e0) (by rw [hT]; exact e1)
    (fun _ h => by cases h) (fun _ h => by cases h) (fun h => by cases h) (fun h => by cases h) hk0 hk0 hkk0 hkk0 (by simp [refKind]) (q_nn h1 (by omega)) (q_nn h2 (by omega)) (q_nn h3 (by omega))
    (by rw [tsp, tnn, arrV_size]; omega)
    (by rw [tdp, tnn, arrV_size]; omega)
    (fun vm₁ _ i hi => by
      have e2 : (arrV (q_cA Γ 0) n0 (fun j => .int (Int32.ofInt (w.2 a0 j)))).slots.getD ((Int32.ofInt sp).toNatClampNeg + i) .null = .int (Int32.ofInt (w.2 a0 ((Int32.ofInt sp).toNatClampNeg + i : Nat))) := by
        rw [Array.getD_eq_getD_getElem?, arrV_read _ _ (by rw [hsp]; rw [hnn] at hi; omega)]
        rfl
      refine ⟨?_, ?_⟩
      · rw [e2]
        exact q_fits_int _
      · rw [e2]
        exact trivial)
    (g := F0 m pc ls (q_i n :: q_i dp :: q_r Γ a :: q_i sp :: q_r Γ a0 :: st)) rfl (by rw [hl.1, CC.2.2.1]) (rest := st) rfl (by rw [CC.2.1]; exact hd) (by have := CC.2.2.2.2.2.2.2.2.2.2.1; omega) (by have h8 := CC.2.2.2.2.2.2.2.2.2.2.2; show 2 * 0 + _ + (7 + 11) ≤ _; omega)
  have ec : copied (arrV (q_cA Γ 0) n0 (fun j => .int (Int32.ofInt (w.2 a0 j)))) (arrV (q_cA Γ 0) n1 (fun j => .int (Int32.ofInt (w.2 a j)))) (Int32.ofInt sp) (Int32.ofInt dp) (Int32.ofInt n) = vp_cell (q_cA Γ 0) (n1, .inl (va_cpy (fun j : Nat => Int32.ofInt (w.2 a0 j)) (fun j : Nat => Int32.ofInt (w.2 a j)) (Int32.ofInt sp).toNatClampNeg (Int32.ofInt dp).toNatClampNeg (Int32.ofInt n).toNatClampNeg)) :=
    va_copied (fun z => .int z) (q_cA Γ 0) (q_cA Γ 0) (fun j : Nat => Int32.ofInt (w.2 a0 j)) (fun j : Nat => Int32.ofInt (w.2 a j)) (by rw [hsp, hnn]; omega)
  have ef : va_cpy (fun j : Nat => Int32.ofInt (w.2 a0 j)) (fun j : Nat => Int32.ofInt (w.2 a j)) (Int32.ofInt sp).toNatClampNeg (Int32.ofInt dp).toNatClampNeg (Int32.ofInt n).toNatClampNeg = fun j : Nat => Int32.ofInt (q_cp w.2 a0 a sp dp n a j) := by
    rw [hsp, hdp, hnn]
    funext j
    simp only [va_cpy, q_cp]
    by_cases hj : dp.toNat ≤ j ∧ j < dp.toNat + n.toNat
    · rw [if_pos hj, if_pos ⟨trivial, by omega, by omega⟩]
      exact congrArg (fun z => Int32.ofInt (w.2 a0 z)) (by omega)
    · rw [if_neg hj, if_neg (fun h => hj (by omega))]
  rw [ec, ef] at X' step
  have hl2 : q_b Γ + a < H.size := (Array.getElem?_eq_some_iff.mp e1).1
  generalize hcell : vp_cell (q_cA Γ 0) (n1, .inl fun j : Nat => Int32.ofInt (q_cp w.2 a0 a sp dp n a j)) = cell at X' step
  have hheap : ((T.setVm vm').setCell (q_b Γ + a) cell).heap = H.setIfInBounds (q_b Γ + a) cell := by rw [← hT]; rfl
  have oq : ∀ q : Nat, q ≠ q_b Γ + a → (H.setIfInBounds (q_b Γ + a) cell)[q]? = H[q]? := fun q hq => by simp [Array.getElem?_setIfInBounds, Ne.symm hq]
  obtain ⟨t, a1, b1⟩ := kk p e R s m args below meth c (H.setIfInBounds (q_b Γ + a) cell) _ cells slots Z ls CC hc1 hs1
    (hW.upd hK1 (q_cp w.2 a0 a sp dp n) (by simp) oq (by show (H.setIfInBounds (q_b Γ + a) cell)[q_b Γ + a]? = some (vp_cell (q_cA Γ 0) (n1, .inl fun j : Nat => Int32.ofInt (q_cp w.2 a0 a sp dp n a j))); rw [hcell]; simp [Array.getElem?_setIfInBounds, hl2])
      (fun k hk => by funext j; simp [q_cp, hk]) (fun j => by unfold q_cp; split <;> exact hW.2.2 _ _))
    ⟨by simp; exact hS.1, fun q g1 g2 => by
      rw [oq q (fun e => g2 (by rw [e]; show q_b Γ ≤ q_b Γ + a; omega))]
      exact hS.2.1 q g1 g2, fun q hq => by
      rcases List.mem_append.mp hq with h | h
      · exact hS.2.2 q h
      · obtain ⟨z, -, hz⟩ := List.mem_map.mp h
        rw [← hz]
        show q_b Γ ≤ q_b Γ + a
        omega⟩ hl hr _ hheap X'
  exact ⟨t, step t a1, b1⟩
theorem q_max {idx : Nat} {a b : Int} (hd : decode M.2.1 pc = .ok (.invokestatic idx, 3)) (hp : pc + 3 = pc') (hlk : Cond.methodLink M.1.cls idx Lib.Math.max.name ∈ q_words) (hstat : Cond.static Lib.Math.max.name ∈ q_words) (hini : Cond.initialized "java/lang/Math" ∈ q_words) (hcode : Cond.code Lib.Math.max.name Lib.Math.max.code 2 (some .int) ∈ q_words) (hd1 : 1 ≤ d) (hcat : (st.map fun v => v.category).sum ≤ 8)
    (ra : q_rg a) (rb : q_rg b) (k : q_Go Γ M d bc bs pc' L (q_i (max a b) :: st) w Q) : q_Go Γ M d bc bs pc L (q_i b :: q_i a :: st) w Q := by
  subst hp
  intro p e R s m args below meth c H locs cells slots Z ls C hc hs hW hS hl hr
  have hts := C.2.2.2.2.2.2.2.1
  have h8 := C.2.2.2.2.2.2.2.2.2.2
  refine va_mmax C.1 C.2.1 (by rw [hl.1, C.2.2.1]) C.2.2.2.1 (hts _ hlk) (hts _ hstat) (hts _ hini) (hts _ hcode) (by omega) (by omega) (by omega) (by omega) hd ?_
  have e9 : (if Int32.ofInt a < Int32.ofInt b then Int32.ofInt b else Int32.ofInt a) = Int32.ofInt (max a b) := by
    split
    · rename_i h
      rw [q_lt ra rb] at h
      rw [Int.max_eq_right (by omega)]
    · rename_i h
      rw [q_lt ra rb] at h
      rw [Int.max_eq_left (by omega)]
  rw [e9]
  exact k p e R s m args below meth c H locs cells slots Z ls C hc hs hW hS hl hr
theorem q_min {idx : Nat} {a b : Int} (hd : decode M.2.1 pc = .ok (.invokestatic idx, 3)) (hp : pc + 3 = pc') (hlk : Cond.methodLink M.1.cls idx Lib.Math.min.name ∈ q_words) (hstat : Cond.static Lib.Math.min.name ∈ q_words) (hini : Cond.initialized "java/lang/Math" ∈ q_words) (hcode : Cond.code Lib.Math.min.name Lib.Math.min.code 2 (some .int) ∈ q_words) (hd1 : 1 ≤ d) (hcat : (st.map fun v => v.category).sum ≤ 8)
    (ra : q_rg a) (rb : q_rg b) (k : q_Go Γ M d bc bs pc' L (q_i (min a b) :: st) w Q) : q_Go Γ M d bc bs pc L (q_i b :: q_i a :: st) w Q := by
  subst hp
  intro p e R s m args below meth c H locs cells slots Z ls C hc hs hW hS hl hr
  have hts := C.2.2.2.2.2.2.2.1
  have h8 := C.2.2.2.2.2.2.2.2.2.2
  refine va_mmin C.1 C.2.1 (by rw [hl.1, C.2.2.1]) C.2.2.2.1 (hts _ hlk) (hts _ hstat) (hts _ hini) (hts _ hcode) (by omega) (by omega) (by omega) (by omega) hd ?_
  have e9 : (if Int32.ofInt b < Int32.ofInt a then Int32.ofInt b else Int32.ofInt a) = Int32.ofInt (min a b) := by
    split
    · rename_i h
      rw [q_lt rb ra] at h
      rw [Int.min_eq_right (by omega)]
    · rename_i h
      rw [q_lt rb ra] at h
      rw [Int.min_eq_left (by omega)]
  rw [e9]
  exact k p e R s m args below meth c H locs cells slots Z ls C hc hs hW hS hl hr
/-- Object's own constructor -/
theorem q_obj {idx a : Nat} (hd : decode M.2.1 pc = .ok (.invokespecial idx, 3)) (hp : pc + 3 = pc') (hlk : Cond.methodLink M.1.cls idx Lib.objectInit ∈ q_words) (hin : Cond.instanceMethod Lib.objectInit ∈ q_words) (hcode : Cond.code Lib.objectInit ⟨#[0xb1]⟩ 1 none ∈ q_words) (hd1 : 1 ≤ d) (hcat : (st.map fun v => v.category).sum ≤ 8)
    (k : q_Go Γ M d bc bs pc' L st w Q) : q_Go Γ M d bc bs pc L (.ref a :: st) w Q := by
  subst hp
  intro p e R s m args below meth c H locs cells slots Z ls C hc hs hW hS hl hr
  have hts := C.2.2.2.2.2.2.2.1
  have h8 := C.2.2.2.2.2.2.2.2.2.2
  exact W.objInit C.1 C.2.1 C.2.2.2.1 (hts _ hlk) (hts _ hin) (hts _ hcode) rfl (by rw [hl.1, C.2.2.1]) (a := a) (rest := st) rfl hd (by omega) (by show 2 * 0 + _ + 12 ≤ _; omega) (k p e R s m args below meth c H locs cells slots Z ls C hc hs hW hS hl hr)
/-- returns -/
theorem q_iret {ty : FieldType} {z : Int} (hd : decode M.2.1 pc = .ok (.ireturn, 1)) (hr : M.2.2.2 = some ty) (hn : narrow ty (q_i z) = q_i z) (hq : Q (some (q_i z)) w) : q_Go Γ M d bc bs pc L [q_i z] w Q := by
  intro p e R s m args below meth c H locs cells slots Z ls C hc hs hW hS hl hret
  exact hret (some (q_i z)) pc w H locs cells slots ls (by omega) (by omega) hW hS hq ⟨hd, ty, hr, hn⟩
theorem q_vret (hd : decode M.2.1 pc = .ok (.return_, 1)) (hr : M.2.2.2 = none) (hq : Q none w) : q_Go Γ M d bc bs pc L [] w Q := by
  intro p e R s m args below meth c H locs cells slots Z ls C hc hs hW hS hl hret
  exact hret none pc w H locs cells slots ls (by omega) (by omega) hW hS hq ⟨hd, hr⟩
theorem q_aret {n : String} {a : Nat} (hd : decode M.2.1 pc = .ok (.areturn, 1)) (hr : M.2.2.2 = some (.object n)) (hq : Q (some (.ref a)) w) : q_Go Γ M d bc bs pc L [.ref a] w Q := by
  intro p e R s m args below meth c H locs cells slots Z ls C hc hs hW hS hl hret
  exact hret (some (.ref a)) pc w H locs cells slots ls (by omega) (by omega) hW hS hq ⟨hd, n, hr⟩
end HC
/-! a method's contract out of its walk -/
def q_Sp (Γ : q_G) (M : q_M) (d bc bs : Nat) (av : List Value) (w : q_W) (Q : Option Value → q_W → Prop) : Prop := q_Go Γ M d bc bs 0 (lv_args 0 av) [] w Q
def q_ev (v0 : Option Value) (w0 : q_W) : Option Value → q_W → Prop := fun v w => v = v0 ∧ w = w0
def q_rm (d bc bs : Nat) : Room := { frames := d, cells := bc, slots := bs, locals := 40 * d }
def q_Pc (Γ : q_G) (av : List Value) (w : q_W) : Array Value → State → Prop := fun v U => v = av.toArray ∧ q_Wd Γ w U.heap ∧ q_Cx Γ U ∧ q_b Γ ≤ U.heap.size
def q_Qc (Γ : q_G) (Q : Option Value → q_W → Prop) : Array Value → State → Outcome → State → Prop := fun _ st oc t => (∃ (v : Option Value) (w' : q_W), oc = .returned v ∧ Q v w' ∧ q_Wd Γ w' t.heap) ∧ va_F (q_A Γ) st t
theorem q_met {Γ : q_G} {M : q_M} {d bc bs : Nat} {av : List Value} {w : q_W} {Q : Option Value → q_W → Prop} (hpl : plainName M.1.cls = true) (hls : (lg_sl av).length ≤ M.2.2.1) (g : q_Sp Γ M d bc bs av w Q) :
    Met (q_l Γ) M.1 (q_ws M) (q_rm d bc bs) (q_Pc Γ av w) (q_Qc Γ Q) bc bs (q_A Γ) := by
  refine Met.ofW (cc := M.2.1) (maxL := M.2.2.1) (ret := M.2.2.2) hpl rfl ?_
  intro p e s m args below meth c s₁ B hml hv
  obtain ⟨rfl, hW, hcx, hb⟩ := hv
  have hts := atoms_spec (ws := q_ws M) B.pre
  rw [lg_entry_eq]
  refine g p e _ s m _ below meth c s.heap [] 0 0 _ _ ⟨B.exec, B.bytes, hml, findClass_of_methodNamed B.named, (name_of_methodNamed B.named B.method).1, B.returns, B.notSynchronized, fun w hw => hts w (List.mem_cons_of_mem _ hw), hcx, hb, Nat.le_refl _, Nat.le_refl _⟩ (Nat.le_of_eq (Nat.zero_add _)) (Nat.le_of_eq (Nat.zero_add _)) hW va_S.rf (lv_entry av hls) ?_
  intro v pc' w' H' locs' cells' slots' ls' h1 h2 hW' hS' hQ hR
  refine W.widen (k := bc) (n := bs) (by omega) (by omega) ?_
  have hq : ∀ t : State, t.heap = H' → s.WarmedH t.vm → q_Qc Γ Q av.toArray s (.returned v) t := fun t ht hWm => ⟨⟨v, w', rfl, hQ, by rw [ht]; exact hW'⟩, hS'.F ht⟩
  match v, hR with
  | none, hR => exact W.vret B.exec B.bytes (B.returns.trans hR.2) hq hS'.2.2 hR.1 B.notSynchronized
  | some (.int x), hR =>
    obtain ⟨hd, ty, e1, e2⟩ := hR
    exact W.zret B.exec B.bytes (B.returns.trans e1) e2 hq hS'.2.2 hd B.notSynchronized
  | some (.ref a), hR =>
    obtain ⟨hd, n, e1⟩ := hR
    exact W.aret B.exec B.bytes (B.returns.trans e1) (Or.inl ⟨n, rfl⟩) (Or.inr ⟨a, rfl⟩) hq hS'.2.2 hd B.notSynchronized
  | some (.long _), hR => exact hR.elim
  | some (.float _), hR => exact hR.elim
  | some (.double _), hR => exact hR.elim
  | some .null, hR => exact hR.elim
