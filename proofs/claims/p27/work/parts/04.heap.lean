/-! fields, arrays, tables, returns -/
def q_Cl (ci : Nat) (C : String) (T : u_T) (N : Nat) : Prop := vwCl[ci]? = some (C, T, N) ∧ (∀ w ∈ u_ws C T N, w ∈ q_words) ∧ (∃ ty0 : Nat → FieldType, ∀ k, k < N → parseFieldDescriptor (T k).2.2.1 = some (ty0 k)) ∧ (∀ a, a < N → ∀ b, b < N → a ≠ b → (T a).2.1 ≠ (T b).2.1)
/-- the pool's place idx of the class own names the field k of the class ci -/
def q_F (own : String) (idx ci k : Nat) (ty : FieldType) (fin : Bool) : Prop := ∃ (C : String) (T : u_T) (N : Nat), q_Cl ci C T N ∧ k < N ∧ (T k).2.2.2 = fin ∧ parseFieldDescriptor (T k).2.2.1 = some ty ∧
  (Cond.fieldLink own idx (T k).1 (T k).2.1 (T k).2.2.1 ∈ q_words ∨ ∃ host, Cond.fieldLinkNest own idx (T k).1 (T k).2.1 (T k).2.2.1 host ∈ lw_tbl)
/-- the same, in the class that declares it -/
def q_FO (own : String) (idx ci k : Nat) (ty : FieldType) (fin : Bool) : Prop := ∃ (C : String) (T : u_T) (N : Nat), q_Cl ci C T N ∧ k < N ∧ (T k).2.2.2 = fin ∧ parseFieldDescriptor (T k).2.2.1 = some ty ∧ (T k).1 = own ∧ Cond.fieldLink own idx (T k).1 (T k).2.1 (T k).2.2.1 ∈ q_words
section HP
variable {Γ : q_G} {M : q_M} {d bc bs pc pc' : Nat} {L : List (Nat × Value)} {st : List Value} {w : q_W} {Q : Option Value → q_W → Prop}
theorem q_getf {idx ci k a f : Nat} {ty : FieldType} {fin : Bool} {fl : List Nat} (hd : decode M.2.1 pc = .ok (.getfield idx, 3)) (hp : pc + 3 = pc') (hF : q_F M.1.cls idx ci k ty fin) (hK : w.1[a]? = some (.inl (ci, fl))) (hf : fl[k]? = some f) (kk : q_Go Γ M d bc bs pc' L (q_fv (q_b Γ) f (w.2 a k) :: st) w Q) : q_Go Γ M d bc bs pc L (q_r Γ a :: st) w Q := by
  subst hp
  obtain ⟨C, T, N, ⟨hc, hin, -, -⟩, hk, -, -, hlk⟩ := hF
  intro p e R s m args below meth c H locs cells slots Z ls CC hc1 hs1 hW hS hl hr
  have e1 := hW.2.1 a _ hK
  rcases hlk with hlk | ⟨host, hlk⟩
  · exact va_get (ws := [(q_b Γ + a, .inr (ci, q_fvs (q_b Γ) fl (w.2 a)))]) (C := C) (T := T) (N := N) CC.1 CC.2.1 CC.2.2.2.2.2.2.2.1 hin CC.2.2.2.1 CC.2.2.2.2.2.2.2.2.1.1 (q_P1 e1) 0 rfl hc k hk (CC.2.2.2.2.2.2.2.1 _ hlk) (fun _ h9 => h9) (q_fvs_get hf) hd (kk p e R s m args below meth c H locs cells slots Z ls CC hc1 hs1 hW hS hl hr)
  · exact va_getN (ws := [(q_b Γ + a, .inr (ci, q_fvs (q_b Γ) fl (w.2 a)))]) (C := C) (T := T) (N := N) (host := host) CC.1 CC.2.1 CC.2.2.2.2.2.2.2.1 hin CC.2.2.2.1 CC.2.2.2.2.2.2.2.2.1.1 (q_P1 e1) 0 rfl hc k hk (va_Nw.use rfl (CC.2.2.2.2.2.2.2.2.1.2.2.2.1 _ hlk rfl)) (fun _ h9 => h9) (q_fvs_get hf) hd (kk p e R s m args below meth c H locs cells slots Z ls CC hc1 hs1 hW hS hl hr)
theorem q_getI {idx ci k a : Nat} {ty : FieldType} {fin : Bool} {fl : List Nat} (hd : decode M.2.1 pc = .ok (.getfield idx, 3)) (hp : pc + 3 = pc') (hF : q_F M.1.cls idx ci k ty fin) (hK : w.1[a]? = some (.inl (ci, fl))) (hf : fl[k]? = some 0) (kk : q_Go Γ M d bc bs pc' L (q_i (w.2 a k) :: st) w Q) : q_Go Γ M d bc bs pc L (q_r Γ a :: st) w Q := q_getf hd hp hF hK hf kk
theorem q_getR {idx ci k a f : Nat} {ty : FieldType} {fin : Bool} {fl : List Nat} (hd : decode M.2.1 pc = .ok (.getfield idx, 3)) (hp : pc + 3 = pc') (hF : q_F M.1.cls idx ci k ty fin) (hK : w.1[a]? = some (.inl (ci, fl))) (hf : fl[k]? = some (f + 2)) (kk : q_Go Γ M d bc bs pc' L (q_r Γ f :: st) w Q) : q_Go Γ M d bc bs pc L (q_r Γ a :: st) w Q := q_getf hd hp hF hK hf kk
/-- what a store of a field does to the world -/
theorem q_put_at {ci k a f : Nat} {C : String} {T : u_T} {N : Nat} {H1 : Heap} {fl : List Nat} {g g' : Int → Int} {cell : Cell} (hc : vwCl[ci]? = some (C, T, N)) (hk : k < N) (hkl : k < fl.length) (hap : ∀ x y, x < N → y < N → x ≠ y → ((q_D Γ).2 ci) x ≠ ((q_D Γ).2 ci) y)
    (q2 : cell.cls = (q_D Γ).1 ci) (q3 : cell.vm = .none) (q4 : ∀ k, k < N → cell.slots[(q_D Γ).2 ci k]? = some (vp_V (q_fvs (q_b Γ) fl g) k)) (hg : ∀ j : Nat, j ≠ k → g' j = g j)
    (e1 : H1[q_b Γ + a]? = some (cell.setSlot ((q_D Γ).2 ci k) (q_fv (q_b Γ) f (g' k)))) : va_at (q_D Γ) vwCl (q_b Γ + a, q_ent Γ (.inl (ci, fl.set k f)) g') H1 := by
  refine ⟨_, hc, ?_⟩
  show t_OB _ _ _ _ _ (vp_V (q_fvs (q_b Γ) (fl.set k f) g'))
  rw [← q_fvs_set (f := f) hkl hg]
  exact t_OB.to (V := updV (vp_V (q_fvs (q_b Γ) fl g)) k (q_fv (q_b Γ) f (g' k))) ⟨_, e1, q2, q3, t_set q4 hap hk _⟩ (fun j _ => vp_updV_set (by rw [q_fvs_len]; exact hkl) _ j)
theorem q_narrow {ty : FieldType} {v : Value} (hn : narrow ty v = v) : narrow ty v = v := hn
/-- a store of a field: of a number (f = 0), or of a reference (f = k + 2) -/
theorem q_putf {idx ci k a f f0 : Nat} {ty : FieldType} {fl : List Nat} (z : Int) (hd : decode M.2.1 pc = .ok (.putfield idx, 3)) (hp : pc + 3 = pc') (hF : q_F M.1.cls idx ci k ty false) (hK : w.1[a]? = some (.inl (ci, fl))) (hf : fl[k]? = some f0)
    (hn : narrow ty (q_fv (q_b Γ) f z) = q_fv (q_b Γ) f z) (hfit : fits ty (q_fv (q_b Γ) f z) = true) (hz : q_rg z) (kk : q_Go Γ M d bc bs pc' L st (w.1.set a (.inl (ci, fl.set k f)), q_up w.2 a k z) Q) : q_Go Γ M d bc bs pc L (q_fv (q_b Γ) f z :: q_r Γ a :: st) w Q := by
  subst hp
  obtain ⟨C, T, N, ⟨hc, hin, ⟨ty0, hty⟩, hnm⟩, hk, hfin, hpd, hlk⟩ := hF
  have hkl : k < fl.length := (List.getElem?_eq_some_iff.mp hf).1
  intro p e R s m args below meth c H locs cells slots Z ls CC hc1 hs1 hW hS hl hr
  have hts := CC.2.2.2.2.2.2.2.1
  have hKk := CC.2.2.2.2.2.2.2.2.1.1
  have hap := va_apart (own := M.1.cls) hts hin ty0 hty hnm hKk hc
  obtain ⟨r, h1, cell, q1, q2, q3, q4⟩ := hW.2.1 a _ hK
  have hr' : r = (C, T, N) := Option.some.inj (h1.symm.trans hc)
  subst hr'
  obtain ⟨hSl, hfc, kC, hkC, hkind⟩ := hKk.1 ci _ hc
  obtain ⟨cf, kf, fi, fd, hi, hsl⟩ := hSl k hk
  have hlay := hts _ (hin _ (u_in_lay hk))
  unfold u_lay at hlay
  rw [if_neg (by rw [hfin]; decide)] at hlay
  have hst := (u_facts hfc hkC (u_lays hts hin hk) hi).1
  have h6 := u_store hfc hkC hkind hlay hi hpd hn hfit
  have key : ∀ H' : Heap, H'[q_b Γ + a]? = some (cell.setSlot fd.slot (q_fv (q_b Γ) f z)) → H'.size = H.size → (∀ q, q ≠ q_b Γ + a → H'[q]? = H[q]?) → W p (q_l Γ) e R s m args below meth c H' (locs ++ [⟨q_b Γ + a, fd.slot⟩]) cells slots Z (F0 m (pc + 3) ls st) := by
    intro H' e1 e2 e3
    rw [hsl] at e1 ⊢
    refine kk p e R s m args below meth c H' _ cells slots Z ls CC hc1 hs1 ?_ (hS.put e2 e3 (show q_b Γ ≤ q_b Γ + a by omega)) hl hr
    have e4 : q_up w.2 a k z a k = z := by simp [q_up]
    have w1 : q_Wd Γ (w.1, q_up w.2 a k z) H' ∨ True := Or.inr trivial
    have ha : a < w.1.length := (List.getElem?_eq_some_iff.mp hK).1
    have e5 : va_at (q_D Γ) vwCl (q_b Γ + a, q_ent Γ (.inl (ci, fl.set k f)) (q_up w.2 a k z a)) H' :=
      q_put_at hc hk hkl hap q2 q3 q4 (g' := q_up w.2 a k z a) (fun j hj => by simp only [q_up]; rw [if_neg]; intro h; have := h.2; omega) (by rw [e4]; exact e1)
    refine ⟨by rw [e2, hW.1]; simp, fun k' K' hk' => ?_, fun k' j => ?_⟩
    · by_cases h : k' = a
      · subst h
        rw [show ((w.1.set k' (.inl (ci, fl.set k f)), q_up w.2 k' k z) : q_W).1[k']? = some (.inl (ci, fl.set k f)) from List.getElem?_set_self ha] at hk'
        cases hk'
        exact e5
      · rw [show ((w.1.set a (.inl (ci, fl.set k f)), q_up w.2 a k z) : q_W).1[k']? = w.1[k']? from List.getElem?_set_ne (Ne.symm h)] at hk'
        have e6 : q_up w.2 a k z k' = w.2 k' := by funext j; simp [q_up, h]
        show va_at _ _ (q_b Γ + k', q_ent Γ K' (q_up w.2 a k z k')) H'
        rw [e6]
        exact (hW.2.1 k' K' hk').kept (e3 _ (by show q_b Γ + k' ≠ q_b Γ + a; omega))
    · show q_rg (q_up w.2 a k z k' j)
      unfold q_up
      split
      · exact hz
      · exact hW.2.2 k' j
  rcases hlk with hlk | ⟨host, hlk⟩
  · exact W.putK CC.1 CC.2.1 (f := fd) ⟨CC.2.2.2.1, hts _ hlk, ⟨_, _, _, hi⟩, hst⟩ (by rw [q2]; exact h6) q1 q3 (by rw [hsl]; exact k2_hasslot (q4 k hk)) rfl rfl hd key
  · exact va_WputK CC.1 CC.2.1 (f := fd) CC.2.2.2.1 (va_Nw.use rfl (CC.2.2.2.2.2.2.2.2.1.2.2.2.1 _ hlk rfl)) hi hst (by rw [q2]; exact h6) q1 q3 (by rw [hsl]; exact k2_hasslot (q4 k hk)) rfl rfl hd key
theorem q_putI {idx ci k a : Nat} {ty : FieldType} {fl : List Nat} {z : Int} (hd : decode M.2.1 pc = .ok (.putfield idx, 3)) (hp : pc + 3 = pc') (hF : q_F M.1.cls idx ci k ty false) (hK : w.1[a]? = some (.inl (ci, fl))) (hf : fl[k]? = some 0)
    (hn : narrow ty (q_i z) = q_i z) (hfit : fits ty (q_i z) = true) (hz : q_rg z) (kk : q_Go Γ M d bc bs pc' L st (w.1, q_up w.2 a k z) Q) : q_Go Γ M d bc bs pc L (q_i z :: q_r Γ a :: st) w Q := by
  refine q_putf (f := 0) z hd hp hF hK hf hn hfit hz ?_
  rw [q_set_self hf, q_set_self hK]
  exact kk
/-- a final field, in the constructor -/
theorem q_putF {idx ci k a f f0 : Nat} {ty : FieldType} {fl : List Nat} (z : Int) (hd : decode M.2.1 pc = .ok (.putfield idx, 3)) (hp : pc + 3 = pc') (hini : M.1.name = "<init>") (hF : q_FO M.1.cls idx ci k ty true) (hK : w.1[a]? = some (.inl (ci, fl))) (hf : fl[k]? = some f0)
    (hn : narrow ty (q_fv (q_b Γ) f z) = q_fv (q_b Γ) f z) (hfit : fits ty (q_fv (q_b Γ) f z) = true) (hz : q_rg z) (kk : q_Go Γ M d bc bs pc' L st (w.1.set a (.inl (ci, fl.set k f)), q_up w.2 a k z) Q) : q_Go Γ M d bc bs pc L (q_fv (q_b Γ) f z :: q_r Γ a :: st) w Q := by
  subst hp
  obtain ⟨C, T, N, ⟨hc, hin, ⟨ty0, hty⟩, hnm⟩, hk, hfin, hpd, hdecl, hlk⟩ := hF
  have hkl : k < fl.length := (List.getElem?_eq_some_iff.mp hf).1
  intro p e R s m args below meth c H locs cells slots Z ls CC hc1 hs1 hW hS hl hr
  have hts := CC.2.2.2.2.2.2.2.1
  have hKk := CC.2.2.2.2.2.2.2.2.1.1
  have hap := va_apart (own := M.1.cls) hts hin ty0 hty hnm hKk hc
  obtain ⟨r, h1, cell, q1, q2, q3, q4⟩ := hW.2.1 a _ hK
  have hr' : r = (C, T, N) := Option.some.inj (h1.symm.trans hc)
  subst hr'
  obtain ⟨hSl, hfc, kC, hkC, hkind⟩ := hKk.1 ci _ hc
  obtain ⟨cf, kf, fi, fd, hi, hsl⟩ := hSl k hk
  have hlay := hts _ (hin _ (u_in_lay hk))
  unfold u_lay at hlay
  rw [if_pos hfin] at hlay
  have hst := (u_facts hfc hkC (u_lays hts hin hk) hi).1
  have hcf : m.cls = cf := by
    obtain ⟨_, _, c', _, _, _, -, -, hf', -, -, -, hown2, -⟩ := Cond.laysFinal_spec hlay
    have e1 : c' = cf := by have := hi.symm.trans hf'; simp at this; exact this.1.symm
    rw [hdecl] at hown2
    rw [← e1]; exact Option.some.inj (CC.2.2.2.1.symm.trans hown2)
  have h6 := u_fits hfc hkC hkind (Or.inr hlay) hi hpd hn hfit
  refine W.putFinK CC.1 CC.2.1 CC.2.2.2.1 (hts _ hlk) hi hst hcf (CC.2.2.2.2.1.trans hini) (by rw [q2]; exact h6) q1 q3 (by rw [hsl]; exact k2_hasslot (q4 k hk)) rfl rfl hd fun H' e1 e2 e3 => ?_
  rw [hsl] at e1 ⊢
  refine kk p e R s m args below meth c H' _ cells slots Z ls CC hc1 hs1 ?_ (hS.put e2 e3 (show q_b Γ ≤ q_b Γ + a by omega)) hl hr
  have e4 : q_up w.2 a k z a k = z := by simp [q_up]
  have ha : a < w.1.length := (List.getElem?_eq_some_iff.mp hK).1
  have e5 : va_at (q_D Γ) vwCl (q_b Γ + a, q_ent Γ (.inl (ci, fl.set k f)) (q_up w.2 a k z a)) H' :=
    q_put_at hc hk hkl hap q2 q3 q4 (g' := q_up w.2 a k z a) (fun j hj => by simp only [q_up]; rw [if_neg]; intro h; have := h.2; omega) (by rw [e4]; exact e1)
  refine ⟨by rw [e2, hW.1]; simp, fun k' K' hk' => ?_, fun k' j => ?_⟩
  · by_cases h : k' = a
    · subst h
      rw [show ((w.1.set k' (.inl (ci, fl.set k f)), q_up w.2 k' k z) : q_W).1[k']? = some (.inl (ci, fl.set k f)) from List.getElem?_set_self ha] at hk'
      cases hk'
      exact e5
    · rw [show ((w.1.set a (.inl (ci, fl.set k f)), q_up w.2 a k z) : q_W).1[k']? = w.1[k']? from List.getElem?_set_ne (Ne.symm h)] at hk'
      have e6 : q_up w.2 a k z k' = w.2 k' := by funext j; simp [q_up, h]
      show va_at _ _ (q_b Γ + k', q_ent Γ K' (q_up w.2 a k z k')) H'
      rw [e6]
      exact (hW.2.1 k' K' hk').kept (e3 _ (by show q_b Γ + k' ≠ q_b Γ + a; omega))
  · show q_rg (q_up w.2 a k z k' j)
    unfold q_up
    split
    · exact hz
    · exact hW.2.2 k' j
end HP
