/-! making: worlds P ++ l, where l is what this constructor and those before it in the same call made -/
section NM
variable {Γ : q_G} {M : q_M} {d bc bs bc2 bs2 pc pc' : Nat} {L : List (Nat × Value)} {st : List Value} {P l l' : List q_K} {S : q_S} {Q : Option Value → q_W → Prop}
theorem n_get {i a : Nat} (ha : P.length + i = a) : (P ++ l)[a]? = l[i]? := by
  subst ha
  rw [List.getElem?_append_right (by omega)]
  congr 1
  omega
theorem n_set {i a : Nat} {x : q_K} (ha : P.length + i = a) : (P ++ l).set a x = P ++ l.set i x := by
  subst ha
  rw [List.set_append, if_neg (by omega), Nat.add_sub_cancel_left]
theorem n_new {idx ci N n : Nat} {C : String} {T : u_T} (fl : List Nat) (ty : Nat → FieldType) (hd : decode M.2.1 pc = .ok (.new idx, 3)) (hp : pc + 3 = pc') (hC : q_Cl ci C T N) (hty : ∀ k, k < N → parseFieldDescriptor (T k).2.2.1 = some (ty k)) (hcl : Cond.classLink M.1.cls idx C ∈ q_words) (hinst : Cond.instantiable C N ∈ q_words) (hini : Cond.initialized C ∈ q_words)
    (hfl : ∀ j, j < N → defaultValue (ty j) = vp_V (q_fvs (q_b Γ) fl (fun _ => 0)) j) (hbc : bc = 1 + bc2) (hbs : bs = N + bs2) (hn : P.length + l.length = n) (hl : l ++ [.inl (ci, fl)] = l')
    (kk : q_Go Γ M d bc2 bs2 pc' L (q_r Γ n :: st) (P ++ l', q_nw S n 0) Q) : q_Go Γ M d bc bs pc L st (P ++ l, S) Q := by
  subst hn; subst hl
  refine q_new fl ty hd hp hC hty hcl hinst hini hfl hbc hbs ?_
  show q_Go Γ M d bc2 bs2 pc' L (q_r Γ (P ++ l).length :: st) ((P ++ l) ++ [.inl (ci, fl)], q_nw S (P ++ l).length 0) Q
  rw [List.length_append, List.append_assoc]
  exact kk
theorem n_newa {atype : ArrayType} {z : Int} {N t n : Nat} (hd : decode M.2.1 pc = .ok (.newarray atype, 2)) (hp : pc + 2 = pc') (ht : t < 3) (hty : newarray.typeOf atype = q_ty t) (harr : Cond.arrayClass (newarray.typeOf atype) ∈ q_words) (hN : z = (N : Int)) (hN2 : N ≤ 1000000) (hbc : bc = 1 + bc2) (hbs : bs = N + bs2) (hn : P.length + l.length = n) (hl : l ++ [.inr (t, N)] = l')
    (kk : q_Go Γ M d bc2 bs2 pc' L (q_r Γ n :: st) (P ++ l', q_nw S n 0) Q) : q_Go Γ M d bc bs pc L (q_i z :: st) (P ++ l, S) Q := by
  subst hn; subst hl
  refine q_newa hd hp ht hty harr hN hN2 hbc hbs ?_
  show q_Go Γ M d bc2 bs2 pc' L (q_r Γ (P ++ l).length :: st) ((P ++ l) ++ [.inr (t, N)], q_nw S (P ++ l).length 0) Q
  rw [List.length_append, List.append_assoc]
  exact kk
theorem n_newq {idx : Nat} {z : Int} {N n : Nat} (hd : decode M.2.1 pc = .ok (.anewarray idx, 3)) (hp : pc + 3 = pc') (hcl : Cond.classLink M.1.cls idx "ShadowRows$Field" ∈ q_words) (hN : z = (N : Int)) (hN2 : N ≤ 1000000) (hbc : bc = 1 + bc2) (hbs : bs = N + bs2) (hn : P.length + l.length = n) (hl : l ++ [.inr (3, N)] = l')
    (kk : q_Go Γ M d bc2 bs2 pc' L (q_r Γ n :: st) (P ++ l', q_nw S n (-1)) Q) : q_Go Γ M d bc bs pc L (q_i z :: st) (P ++ l, S) Q := by
  subst hn; subst hl
  refine q_newq hd hp hcl hN hN2 hbc hbs ?_
  show q_Go Γ M d bc2 bs2 pc' L (q_r Γ (P ++ l).length :: st) ((P ++ l) ++ [.inr (3, N)], q_nw S (P ++ l).length (-1)) Q
  rw [List.length_append, List.append_assoc]
  exact kk
theorem n_putF {idx ci k a i f f0 : Nat} {ty : FieldType} {fl : List Nat} (hd : decode M.2.1 pc = .ok (.putfield idx, 3)) (hp : pc + 3 = pc') (hini : M.1.name = "<init>") (hF : q_FO M.1.cls idx ci k ty true) (ha : P.length + i = a) (hK : l[i]? = some (.inl (ci, fl))) (hf : fl[k]? = some f0)
    (hn : narrow ty (q_r Γ f) = q_r Γ f) (hfit : fits ty (q_r Γ f) = true) (hl : l.set i (.inl (ci, fl.set k (f + 2))) = l') (kk : q_Go Γ M d bc bs pc' L st (P ++ l', q_up S a k 0) Q) : q_Go Γ M d bc bs pc L (q_r Γ f :: q_r Γ a :: st) (P ++ l, S) Q := by
  refine q_putF (f := f + 2) 0 hd hp hini hF (by show (P ++ l)[a]? = _; rw [n_get ha]; exact hK) hf hn hfit q_rg0 ?_
  show q_Go Γ M d bc bs pc' L st ((P ++ l).set a (.inl (ci, fl.set k (f + 2))), q_up S a k 0) Q
  rw [n_set ha, hl]
  exact kk
theorem n_putI {idx ci k a i : Nat} {ty : FieldType} {fl : List Nat} {z : Int} (hd : decode M.2.1 pc = .ok (.putfield idx, 3)) (hp : pc + 3 = pc') (hF : q_F M.1.cls idx ci k ty false) (ha : P.length + i = a) (hK : l[i]? = some (.inl (ci, fl))) (hf : fl[k]? = some 0) (hn : narrow ty (q_i z) = q_i z) (hfit : fits ty (q_i z) = true) (hz : q_rg z)
    (kk : q_Go Γ M d bc bs pc' L st (P ++ l, q_up S a k z) Q) : q_Go Γ M d bc bs pc L (q_i z :: q_r Γ a :: st) (P ++ l, S) Q :=
  q_putI hd hp hF (by show (P ++ l)[a]? = _; rw [n_get ha]; exact hK) hf hn hfit hz kk
theorem n_getR {idx ci k a i f : Nat} {ty : FieldType} {fin : Bool} {fl : List Nat} (hd : decode M.2.1 pc = .ok (.getfield idx, 3)) (hp : pc + 3 = pc') (hF : q_F M.1.cls idx ci k ty fin) (ha : P.length + i = a) (hK : l[i]? = some (.inl (ci, fl))) (hf : fl[k]? = some (f + 2)) (kk : q_Go Γ M d bc bs pc' L (q_r Γ f :: st) (P ++ l, S) Q) : q_Go Γ M d bc bs pc L (q_r Γ a :: st) (P ++ l, S) Q :=
  q_getR hd hp hF (by show (P ++ l)[a]? = _; rw [n_get ha]; exact hK) hf kk
theorem n_iast {a i n : Nat} {z v : Int} (hd : decode M.2.1 pc = .ok (.iastore, 1)) (hp : pc + 1 = pc') (ha : P.length + i = a) (hK : l[i]? = some (.inr (0, n))) (h0 : 0 ≤ z) (h1 : z < (n : Int)) (hn : n ≤ 2147483647) (hv : q_rg v) (kk : q_Go Γ M d bc bs pc' L st (P ++ l, q_up S a z v) Q) : q_Go Γ M d bc bs pc L (q_i v :: q_i z :: q_r Γ a :: st) (P ++ l, S) Q :=
  p_iast hd hp (by rw [n_get ha]; exact hK) h0 h1 hn hv kk
theorem n_aast {a i n b j : Nat} {z : Int} {fl : List Nat} (hd : decode M.2.1 pc = .ok (.aastore, 1)) (hp : pc + 1 = pc') (ha : P.length + i = a) (hK : l[i]? = some (.inr (3, n))) (h0 : 0 ≤ z) (h1 : z < (n : Int)) (hn : n ≤ 2147483647) (hb : P.length + j = b) (hB : l[j]? = some (.inl (0, fl))) (hb2 : b ≤ 2147483647) (kk : q_Go Γ M d bc bs pc' L st (P ++ l, q_up S a z b) Q) : q_Go Γ M d bc bs pc L (q_r Γ b :: q_i z :: q_r Γ a :: st) (P ++ l, S) Q :=
  p_aast hd hp (by rw [n_get ha]; exact hK) h0 h1 hn (by rw [n_get hb]; exact hB) hb2 kk
end NM
def s_Z : q_S := fun _ _ => 0
/-- the cells from c on, n of them, hold what V says; those before are as they were -/
def s_iv (S S2 : q_S) (c n : Nat) (V : q_S) : Prop := (∀ a, a < c → S2 a = S a) ∧ ∀ a, c ≤ a → a < c + n → S2 a = V a
theorem s_iv_0 {S : q_S} {c : Nat} (h : S c = fun _ => 0) : s_iv S S c 1 s_Z := ⟨fun _ _ => rfl, fun a h1 h2 => by rw [show a = c by omega]; exact h⟩
theorem s_iv_nw {S S2 V : q_S} {c n m : Nat} {v : Int} (H : s_iv S S2 c n V) (hm : c + n = m) : s_iv S (q_nw S2 m v) c (n + 1) (q_nw V m v) := by
  subst hm
  refine ⟨fun a h => (q_nw_ne (by omega)).trans (H.1 a h), fun a h1 h2 => ?_⟩
  by_cases e : a = c + n
  · rw [e, q_nw_eq, q_nw_eq]
  · rw [q_nw_ne e, q_nw_ne e]; exact H.2 a h1 (by omega)
theorem s_iv_up {S S2 V : q_S} {c n a : Nat} {z v : Int} (H : s_iv S S2 c n V) (h1 : c ≤ a) (h2 : a < c + n) : s_iv S (q_up S2 a z v) c n (q_up V a z v) := by
  refine ⟨fun b h => (q_up_ne (by omega)).trans (H.1 b h), fun b g1 g2 => ?_⟩
  funext y
  unfold q_up
  rw [H.2 b g1 g2]
def s_mrg (V W : q_S) (c : Nat) : q_S := fun a => if a < c then V a else W a
theorem s_iv_call {S S2 S3 V W : q_S} {c n c' m k : Nat} (H : s_iv S S2 c n V) (hc : c + n = c' + 1) (G : s_iv S2 S3 c' m W) (hn : 0 < n) (hk : n + m = k + 1) : s_iv S S3 c k (s_mrg V W c') := by
  refine ⟨fun a h => (G.1 a (by omega)).trans (H.1 a h), fun a h1 h2 => ?_⟩
  unfold s_mrg
  by_cases e : a < c'
  · rw [if_pos e, G.1 a e]; exact H.2 a h1 (by omega)
  · rw [if_neg e]; exact G.2 a (by omega) (by omega)
theorem s_iv_z {S S2 V : q_S} {c n m : Nat} (H : s_iv S S2 c n V) (h : c + n = m + 1) (hV : V m = fun _ => 0) (hn : 0 < n) : S2 m = fun _ => 0 := by
  rw [← hV]; exact H.2 m (by omega) (by omega)
theorem s_iv_V {S S2 V W : q_S} {c n : Nat} (H : s_iv S S2 c n V) (h : ∀ a, c ≤ a → a < c + n → W a = V a) : s_iv S S2 c n W := ⟨H.1, fun a h1 h2 => (H.2 a h1 h2).trans (h a h1 h2).symm⟩
theorem n_df {B : Nat} {fl : List Nat} {j f : Nat} (h : fl[j]? = some f) : vp_V (q_fvs B fl (fun _ => 0)) j = q_fv B f 0 := by
  unfold vp_V
  rw [List.getD_eq_getElem?_getD, q_fvs_get h]
  rfl
theorem s_iv_nw0 {S S2 V : q_S} {c n m : Nat} (H : s_iv S S2 c n V) (hm : c + n = m) (hV : V m = fun _ => 0) : s_iv S (q_nw S2 m 0) c (n + 1) V :=
  s_iv_V (s_iv_nw (v := 0) H hm) (fun a _ _ => by
    by_cases e : a = m
    · subst e; rw [q_nw_eq, hV]
    · rw [q_nw_ne e])
theorem s_iv_up0 {S S2 V : q_S} {c n a : Nat} {z v : Int} (H : s_iv S S2 c n V) (h1 : c ≤ a) (h2 : a < c + n) (hV : V a z = v) : s_iv S (q_up S2 a z v) c n V :=
  s_iv_V (s_iv_up H h1 h2) (fun b _ _ => by
    funext y
    unfold q_up
    split
    · rename_i q; rw [q.1, q.2, hV]
    · rfl)
theorem s_iv_callV {S S2 S3 V W V' : q_S} {c n c' m k : Nat} (H : s_iv S S2 c n V) (hc : c + n = c' + 1) (G : s_iv S2 S3 c' m W) (hn : 0 < n) (hk : n + m = k + 1) (h1 : ∀ a, a < c' → V' a = V a) (h2 : ∀ a, c' ≤ a → a < c' + m → V' a = W a) : s_iv S S3 c k V' :=
  s_iv_V (s_iv_call H hc G hn hk) (fun a _ _ => by
    unfold s_mrg
    by_cases e : a < c'
    · rw [if_pos e]; exact h1 a e
    · rw [if_neg e]; exact h2 a (by omega) (by omega))
/-- the history's cells, k states made -/
def s_V1 (c k : Nat) : q_S := fun a z => if a = c + 1 then (if 0 ≤ z ∧ z < k then (c : Int) + 2 + 13 * z else -1) else if c + 2 ≤ a ∧ a < c + 2 + 13 * k ∧ (a - c - 2) % 13 = 0 ∧ z = 6 then 7 else 0
theorem s_iv_1 {S S2 S4 : q_S} {c k : Nat} (H : s_iv S S2 c (2 + 13 * k) (s_V1 c k)) (G : s_iv (q_nw S2 (c + (2 + 13 * k)) 0) S4 (c + (2 + 13 * k)) 13 (q_up s_Z (c + (2 + 13 * k)) 6 7)) : s_iv S (q_up S4 (c + 1) k ((c + (2 + 13 * k) : Nat) : Int)) c (2 + 13 * (k + 1)) (s_V1 c (k + 1)) := by
  refine ⟨fun a h => ?_, fun a h1 h2 => ?_⟩
  · rw [q_up_ne (by omega), G.1 a (by omega), q_nw_ne (by omega)]; exact H.1 a h
  · funext z
    by_cases e : a < c + (2 + 13 * k)
    · have q : S4 a = s_V1 c k a := by rw [G.1 a e, q_nw_ne (by omega)]; exact H.2 a h1 e
      unfold q_up
      rw [q]
      unfold s_V1
      by_cases e1 : a = c + 1
      · subst e1
        rw [if_pos rfl, if_pos rfl]
        by_cases e2 : z = (k : Int)
        · rw [if_pos ⟨rfl, e2⟩, if_pos (by omega)]; omega
        · rw [if_neg (fun g => e2 g.2)]
          by_cases e3 : 0 ≤ z ∧ z < (k : Int)
          · rw [if_pos e3, if_pos (by omega)]
          · rw [if_neg e3, if_neg (by omega)]
      · rw [if_neg (fun g => e1 g.1), if_neg e1, if_neg e1]
        by_cases e3 : c + 2 ≤ a ∧ a < c + 2 + 13 * k ∧ (a - c - 2) % 13 = 0 ∧ z = 6
        · rw [if_pos e3, if_pos (by omega)]
        · rw [if_neg e3, if_neg (by omega)]
    · have q : S4 a = q_up s_Z (c + (2 + 13 * k)) 6 7 a := G.2 a (by omega) (by omega)
      rw [q_up_ne (by omega), q]
      unfold q_up s_V1 s_Z
      rw [if_neg (show ¬ a = c + 1 by omega)]
      by_cases e4 : a = c + (2 + 13 * k) ∧ z = 6
      · rw [if_pos e4, if_pos (by omega)]
      · rw [if_neg e4, if_neg (by omega)]
theorem s_iv_1q {S S2 S4 : q_S} {c k n m : Nat} {q : Int} (hn : n = 2 + 13 * k) (hm : c + n = m) (hq : q = (k : Int)) (H : s_iv S S2 c n (s_V1 c k)) (G : s_iv (q_nw S2 m 0) S4 m 13 (q_up s_Z m 6 7)) : s_iv S (q_up S4 (c + 1) q ((m : Nat) : Int)) c (n + 13) (s_V1 c (k + 1)) := by
  subst hm; subst hn; subst hq
  exact s_iv_1 H G
theorem s_ia {p : Prop} [Decidable p] {f g : Int → Int} {x : Int} : (if p then f else g) x = if p then f x else g x := by split <;> rfl
