/-! integers behind the machine's ints; the world as a list of kinds and one function of numbers; a walk over it -/
def q_i (z : Int) : Value := .int (Int32.ofInt z)
abbrev q_rg (z : Int) : Prop := -2147483648 ≤ z ∧ z ≤ 2147483647
theorem q_ti {z : Int} (h : q_rg z) : (Int32.ofInt z).toInt = z := Int32.toInt_ofInt_of_le (by have := h.1; omega) (by have := h.2; omega)
theorem q_ot (x : Int32) : Int32.ofInt x.toInt = x := Int32.ofInt_toInt x
theorem q_rgt (x : Int32) : q_rg x.toInt := ⟨by have := x.le_toInt; omega, by have := x.toInt_lt; omega⟩
theorem q_lt {a b : Int} (ha : q_rg a) (hb : q_rg b) : Int32.ofInt a < Int32.ofInt b ↔ a < b := by rw [Int32.lt_iff_toInt_lt, q_ti ha, q_ti hb]
theorem q_le {a b : Int} (ha : q_rg a) (hb : q_rg b) : Int32.ofInt a ≤ Int32.ofInt b ↔ a ≤ b := by rw [Int32.le_iff_toInt_le, q_ti ha, q_ti hb]
theorem q_eq {a b : Int} (ha : q_rg a) (hb : q_rg b) : Int32.ofInt a = Int32.ofInt b ↔ a = b := by rw [← Int32.toInt_inj, q_ti ha, q_ti hb]
theorem q_0 : (0 : Int32) = Int32.ofInt 0 := rfl
theorem q_rg0 : q_rg 0 := by decide
theorem q_cl {z : Int} (h0 : 0 ≤ z) (h : z ≤ 2147483647) : (Int32.ofInt z).toNatClampNeg = z.toNat := by
  show (Int32.ofInt z).toInt.toNat = _
  rw [q_ti ⟨by omega, h⟩]
theorem q_in {z : Int} {n : Nat} (h0 : 0 ≤ z) (h : z < (n : Int)) (hn : n ≤ 2147483647) : vp_in (Int32.ofInt z) n := by
  rw [vp_in_iff, q_ti ⟨by omega, by omega⟩]
  exact ⟨h0, h⟩
theorem q_nn {z : Int} (h0 : 0 ≤ z) (h : z ≤ 2147483647) : ¬ Int32.ofInt z < 0 := by
  rw [q_0, q_lt ⟨by omega, h⟩ q_rg0]
  omega
/-- launch, classes, array classes, where the world begins, static places, the script's ints, their number -/
abbrev q_G : Type := Launch × va_G × (Nat → ClassId) × Nat × (Nat → Nat) × (Nat → Int) × Nat
abbrev q_l (Γ : q_G) : Launch := Γ.1
abbrev q_D (Γ : q_G) : va_G := Γ.2.1
abbrev q_cA (Γ : q_G) : Nat → ClassId := Γ.2.2.1
abbrev q_b (Γ : q_G) : Nat := Γ.2.2.2.1
abbrev q_ad (Γ : q_G) : Nat → Nat := Γ.2.2.2.2.1
abbrev q_xs (Γ : q_G) : Nat → Int := Γ.2.2.2.2.2.1
abbrev q_n (Γ : q_G) : Nat := Γ.2.2.2.2.2.2
abbrev q_r (Γ : q_G) (k : Nat) : Value := .ref (q_b Γ + k)
def q_A (Γ : q_G) : Nat → Prop := fun q => q_b Γ ≤ q
/-- a kind: an object of a class with its fields (0: a number, 1: null, k + 2: the cell k), or an array (0 int, 1 boolean, 2 char, 3 of fields) of a length -/
abbrev q_K : Type := (Nat × List Nat) ⊕ (Nat × Nat)
abbrev q_S : Type := Nat → Int → Int
abbrev q_W : Type := List q_K × q_S
def q_fv (B : Nat) (f : Nat) (z : Int) : Value := match f with
  | 0 => q_i z
  | 1 => .null
  | k + 2 => .ref (B + k)
def q_fvs (B : Nat) (fl : List Nat) (g : Int → Int) : List Value := fl.mapIdx (fun k f => q_fv B f (g k))
def q_el (B : Nat) (z : Int) : Option Nat := if z < 0 then none else some (B + z.toNat)
def q_ar (B t : Nat) (g : Int → Int) : ((Nat → Int32) ⊕ (Nat → Int64) ⊕ (Nat → UInt32) ⊕ (Nat → UInt64) ⊕ (Nat → Option Nat)) :=
  match t with
  | 3 => .inr (.inr (.inr (.inr fun j => q_el B (g j))))
  | _ => .inl (fun j => Int32.ofInt (g j))
def q_ent (Γ : q_G) (K : q_K) (g : Int → Int) : va_E := match K with
  | .inl o => .inr (o.1, q_fvs (q_b Γ) o.2 g)
  | .inr a => .inl (q_cA Γ a.1, a.2, q_ar (q_b Γ) a.1 g)
def q_ty (t : Nat) : FieldType := match t with
  | 0 => .int
  | 1 => .boolean
  | 2 => .char
  | _ => .object "ShadowRows$Field"
def q_tys (Γ : q_G) : List (ClassId × FieldType) := [(q_cA Γ 0, q_ty 0), (q_cA Γ 1, q_ty 1), (q_cA Γ 2, q_ty 2), (q_cA Γ 3, q_ty 3)]
def q_Wd (Γ : q_G) (w : q_W) (H : Heap) : Prop := H.size = q_b Γ + w.1.length ∧ (∀ (k : Nat) (K : q_K), w.1[k]? = some K → va_at (q_D Γ) vwCl (q_b Γ + k, q_ent Γ K (w.2 k)) H) ∧ ∀ (k : Nat) (j : Int), q_rg (w.2 k j)
def q_up (S : q_S) (a : Nat) (z v : Int) : q_S := fun a' z' => if a' = a ∧ z' = z then v else S a' z'
def q_cp (S : q_S) (src dst : Nat) (sp dp n : Int) : q_S := fun a' z' => if a' = dst ∧ dp ≤ z' ∧ z' < dp + n then S src (sp + (z' - dp)) else S a' z'
theorem q_P1 {D : va_G} {cl : List vw_C} {x : Nat × va_E} {H : Heap} (h : va_at D cl x H) : va_P D cl [x] H := by
  intro k q hk
  have hz : k < 1 := (List.getElem?_eq_some_iff.mp hk).1
  rw [show k = 0 by omega] at hk
  cases hk
  exact h
theorem q_fvs_get {B : Nat} {fl : List Nat} {g : Int → Int} {k f : Nat} (h : fl[k]? = some f) : (q_fvs B fl g)[k]? = some (q_fv B f (g k)) := by
  simp [q_fvs, List.getElem?_mapIdx, h]
theorem q_fvs_len {B : Nat} {fl : List Nat} {g : Int → Int} : (q_fvs B fl g).length = fl.length := by simp [q_fvs]
theorem q_fvs_set {B : Nat} {fl : List Nat} {g g' : Int → Int} {k f : Nat} (hk : k < fl.length) (hg : ∀ j : Nat, j ≠ k → g' j = g j) : (q_fvs B fl g).set k (q_fv B f (g' k)) = q_fvs B (fl.set k f) g' := by
  apply List.ext_getElem?
  intro i
  by_cases hi : i = k
  · subst hi
    rw [List.getElem?_set_self (by rw [q_fvs_len]; exact hk)]
    exact (q_fvs_get (List.getElem?_set_self hk)).symm
  · rw [List.getElem?_set_ne (Ne.symm hi)]
    simp only [q_fvs, List.getElem?_mapIdx, List.getElem?_set_ne (Ne.symm hi)]
    rw [hg i hi]
theorem q_set_self {α : Type} {fl : List α} {k : Nat} {f : α} (h : fl[k]? = some f) : fl.set k f = fl := by
  apply List.ext_getElem?
  intro i
  by_cases hi : i = k
  · subst hi
    rw [List.getElem?_set_self (List.getElem?_eq_some_iff.mp h).1, h]
  · rw [List.getElem?_set_ne (Ne.symm hi)]
/-- one cell changed, of the same kind -/
theorem q_Wd.upd {Γ : q_G} {w : q_W} {H H1 : Heap} {a : Nat} {K : q_K} (hW : q_Wd Γ w H) (hK : w.1[a]? = some K) (S' : q_S) (z1 : H1.size = H.size) (oq : ∀ q : Nat, q ≠ q_b Γ + a → H1[q]? = H[q]?)
    (e1 : va_at (q_D Γ) vwCl (q_b Γ + a, q_ent Γ K (S' a)) H1) (hs : ∀ k, k ≠ a → S' k = w.2 k) (hr : ∀ j, q_rg (S' a j)) : q_Wd Γ (w.1, S') H1 := by
  refine ⟨z1.trans hW.1, fun k K' hk => ?_, fun k j => ?_⟩
  · by_cases h : k = a
    · subst h
      cases hK.symm.trans hk
      exact e1
    · show va_at _ _ (q_b Γ + k, q_ent Γ K' (S' k)) H1
      rw [hs k h]
      exact (hW.2.1 k K' hk).kept (oq _ (by show q_b Γ + k ≠ q_b Γ + a; omega))
  · by_cases h : k = a
    · subst h
      exact hr j
    · show q_rg (S' k j)
      rw [hs k h]
      exact hW.2.2 k j
/-- one cell changed, of another kind -/
theorem q_Wd.updK {Γ : q_G} {w : q_W} {H H1 : Heap} {a : Nat} {K K' : q_K} (hW : q_Wd Γ w H) (hK : w.1[a]? = some K) (z1 : H1.size = H.size) (oq : ∀ q : Nat, q ≠ q_b Γ + a → H1[q]? = H[q]?)
    (e1 : va_at (q_D Γ) vwCl (q_b Γ + a, q_ent Γ K' (w.2 a)) H1) : q_Wd Γ (w.1.set a K', w.2) H1 := by
  have ha : a < w.1.length := (List.getElem?_eq_some_iff.mp hK).1
  refine ⟨by rw [z1, hW.1]; simp, fun k K2 hk => ?_, hW.2.2⟩
  by_cases h : k = a
  · subst h
    rw [show ((w.1.set k K', w.2) : q_W).1[k]? = some K' from List.getElem?_set_self ha] at hk
    cases hk
    exact e1
  · rw [show ((w.1.set a K', w.2) : q_W).1[k]? = w.1[k]? from List.getElem?_set_ne (Ne.symm h)] at hk
    exact (hW.2.1 k K2 hk).kept (oq _ (by show q_b Γ + k ≠ q_b Γ + a; omega))
/-- one cell more -/
theorem q_Wd.push {Γ : q_G} {w : q_W} {H H1 : Heap} {K : q_K} (hW : q_Wd Γ w H) (S' : q_S) (z1 : H1.size = H.size + 1) (oq : ∀ q : Nat, q < H.size → H1[q]? = H[q]?)
    (e1 : va_at (q_D Γ) vwCl (q_b Γ + w.1.length, q_ent Γ K (S' w.1.length)) H1) (hs : ∀ k, k ≠ w.1.length → S' k = w.2 k) (hr : ∀ j, q_rg (S' w.1.length j)) : q_Wd Γ (w.1 ++ [K], S') H1 := by
  refine ⟨by rw [z1, hW.1]; simp; omega, fun k K2 hk => ?_, fun k j => ?_⟩
  · by_cases h : k < w.1.length
    · rw [show ((w.1 ++ [K], S') : q_W).1[k]? = w.1[k]? from List.getElem?_append_left h] at hk
      show va_at _ _ (q_b Γ + k, q_ent Γ K2 (S' k)) H1
      rw [hs k (by omega)]
      exact (hW.2.1 k K2 hk).kept (oq _ (by have := hW.1; show q_b Γ + k < H.size; omega))
    · rw [show ((w.1 ++ [K], S') : q_W).1[k]? = [K][k - w.1.length]? from List.getElem?_append_right (by omega)] at hk
      have hz : k - w.1.length < 1 := (List.getElem?_eq_some_iff.mp hk).1
      have hk0 : k = w.1.length := by omega
      subst hk0
      rw [Nat.sub_self] at hk
      cases hk
      exact e1
  · by_cases h : k = w.1.length
    · subst h
      exact hr j
    · show q_rg (S' k j)
      rw [hs k h]
      exact hW.2.2 k j
/-! what stands outside the world: static arrays, the script, one text, words -/
def q_tab (Γ : q_G) (i : Nat) : Nat × (Nat → Int) := match i with
  | 0 => (10, fun j => [6, 4, 3, 2, 1, 1, 2, 3, 4, 6].getD j 0)
  | 1 => (10, fun j => [1, 2, 3, 4, 5, 5, 4, 3, 2, 1].getD j 0)
  | 2 => (7, fun j => [1, 5, 25, 125, 625, 3125, 15625].getD j 0)
  | _ => (q_n Γ, q_xs Γ)
def q_stn (i : Nat) : String × String := match i with
  | 0 => ("ShadowRows$Light", "SLOPE")
  | 1 => ("ShadowRows$Light", "SUN")
  | _ => ("ShadowRows$TiltSearch", "POWERS")
def q_nest (w : Cond) : Bool := match w with
  | .fieldLinkNest .. => true
  | .methodLinkNest .. => true
  | _ => false
def q_Cx (Γ : q_G) (s : State) : Prop := va_K (q_D Γ) vwCl (q_tys Γ) s ∧ (∀ i, i < 4 → va_T .int (q_ad Γ i) (q_tab Γ i).1 (fun j => q_i ((q_tab Γ i).2 j)) (q_A Γ) s s.heap) ∧ (∀ i, i < 3 → va_Z (q_stn i).1 (q_stn i).2 "[I" (.ref (q_ad Γ i)) (q_A Γ) s s.heap) ∧
  (∀ w, w ∈ lw_tbl → q_nest w = true → va_Nw w s) ∧ va_AO "ShadowRows$Field" s
theorem q_Nw_warm {w : Cond} {s U : State} (hn : q_nest w = true) (hW : s.WarmedH U.vm) (h : va_Nw w s) : va_Nw w U := by
  cases w <;> first | exact va_Nw.warmF hW h | exact va_Nw.warmM hW h | exact absurd hn (by simp [q_nest])
theorem q_Cx.warm {Γ : q_G} {s U : State} (hW : s.WarmedH U.vm) (hq : ∀ a : Nat, a < s.heap.size → ¬ q_A Γ a → U.heap[a]? = s.heap[a]?) (h : q_Cx Γ s) : q_Cx Γ U := by
  obtain ⟨h1, h2, h3, h4, h5⟩ := h
  exact ⟨va_K.moved hW.alike h1, fun i hi => ((h2 i hi).moved hW.alike).kept hq, fun i hi => ((h3 i hi).moved hW.alike).kept hq, fun w hw hn => q_Nw_warm hn hW (h4 w hw hn), h5.moved hW.alike⟩
/-- a method: its name, code, locals, answer -/
abbrev q_M : Type := MethodName × ByteArray × Nat × Option FieldType
def q_words : List Cond := lw_tbl.filter goodWord
def q_ws (M : q_M) : List Cond := .code M.1 M.2.1 M.2.2.1 M.2.2.2 :: q_words
def q_QC (Γ : q_G) (M : q_M) (d : Nat) (p : Program) (s : State) (m : MethodId) (args : Array Value) (meth : Method) (c : Code) (R : Room) : Prop :=
  p.tables.exec = Jvm.exec ∧ c.code = M.2.1 ∧ c.maxLocals = M.2.2.1 ∧ s.vm.findClass M.1.cls = some m.cls ∧ meth.name = M.1.name ∧ meth.sig.returnType = M.2.2.2 ∧ meth.locks = false ∧ (∀ w ∈ q_words, w.before args s = true) ∧ q_Cx Γ s ∧ q_b Γ ≤ s.heap.size ∧ d ≤ R.frames ∧ 40 * d ≤ R.locals
/-- where a method returns, and with what -/
def q_Rt (M : q_M) (pc : Nat) (v : Option Value) : Prop := match v with
  | none => decode M.2.1 pc = .ok (.return_, 1) ∧ M.2.2.2 = none
  | some (.int x) => decode M.2.1 pc = .ok (.ireturn, 1) ∧ ∃ ty, M.2.2.2 = some ty ∧ narrow ty (.int x) = .int x
  | some (.ref _) => decode M.2.1 pc = .ok (.areturn, 1) ∧ ∃ n, M.2.2.2 = some (.object n)
  | _ => False
def q_Go (Γ : q_G) (M : q_M) (d bc bs pc : Nat) (L : List (Nat × Value)) (st : List Value) (w : q_W) (Q : Option Value → q_W → Prop) : Prop :=
  ∀ (p : Program) (e : Env) (R : Room) (s : State) (m : MethodId) (args : Array Value) (below : List Frame) (meth : Method) (c : Code) (H : Heap) (locs : List Loc) (cells slots : Nat) (Z : State → Prop) (ls : Array Slot),
    q_QC Γ M d p s m args meth c R → cells + bc ≤ R.cells → slots + bs ≤ R.slots → q_Wd Γ w H → va_S (q_A Γ) s.heap H locs → lv_has ls M.2.2.1 L →
    (∀ (v : Option Value) (pc' : Nat) (w' : q_W) (H' : Heap) (locs' : List Loc) (cells' slots' : Nat) (ls' : Array Slot), cells' ≤ cells + bc → slots' ≤ slots + bs → q_Wd Γ w' H' → va_S (q_A Γ) s.heap H' locs' → Q v w' → q_Rt M pc' v →
      W p (q_l Γ) e R s m args below meth c H' locs' cells' slots' Z (F0 m pc' ls' v.toList)) →
    W p (q_l Γ) e R s m args below meth c H locs cells slots Z (F0 m pc ls st)
