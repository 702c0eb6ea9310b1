/-! one rule an instruction -/
theorem q_pure {Γ : q_G} {M : q_M} {d bc bs pc pc' : Nat} {L : List (Nat × Value)} {st st' : List Value} {w : q_W} {Q : Option Value → q_W → Prop}
    (h : ∀ (p : Program) (e : Env) (R : Room) (s : State) (m : MethodId) (args : Array Value) (below : List Frame) (meth : Method) (c : Code) (H : Heap) (locs : List Loc) (cells slots : Nat) (Z : State → Prop) (ls : Array Slot),
      q_QC Γ M d p s m args meth c R → lv_has ls M.2.2.1 L → cells ≤ R.cells → slots ≤ R.slots → W p (q_l Γ) e R s m args below meth c H locs cells slots Z (F0 m pc' ls st') → W p (q_l Γ) e R s m args below meth c H locs cells slots Z (F0 m pc ls st))
    (k : q_Go Γ M d bc bs pc' L st' w Q) : q_Go Γ M d bc bs pc L st w Q :=
  fun p e R s m args below meth c H locs cells slots Z ls C hc hs hW hS hl hr => h p e R s m args below meth c H locs cells slots Z ls C hl (by omega) (by omega) (k p e R s m args below meth c H locs cells slots Z ls C hc hs hW hS hl hr)

theorem q_iconst {Γ : q_G} {M : q_M} {d bc bs pc pc' : Nat} {L : List (Nat × Value)} {st : List Value} {w : q_W} {Q : Option Value → q_W → Prop} {n : Int} (hd : decode M.2.1 pc = .ok (.iconst n, 1)) (hp : pc + 1 = pc') (k : q_Go Γ M d bc bs pc' L (q_i n :: st) w Q) : q_Go Γ M d bc bs pc L (st) w Q := by
  subst hp
  exact q_pure (fun p e R s m args below meth c H locs cells slots Z ls C hl hcc hss h => lv_iconst C.1 C.2.1 hd rfl h) k

theorem q_bipush {Γ : q_G} {M : q_M} {d bc bs pc pc' : Nat} {L : List (Nat × Value)} {st : List Value} {w : q_W} {Q : Option Value → q_W → Prop} {n : Int} (hd : decode M.2.1 pc = .ok (.bipush n, 2)) (hp : pc + 2 = pc') (hn : (Int8.ofInt n).toInt32 = Int32.ofInt n) (k : q_Go Γ M d bc bs pc' L (q_i n :: st) w Q) : q_Go Γ M d bc bs pc L (st) w Q := by
  subst hp
  exact q_pure (fun p e R s m args below meth c H locs cells slots Z ls C hl hcc hss h => lv_bipush C.1 C.2.1 hd hn h) k

theorem q_sipush {Γ : q_G} {M : q_M} {d bc bs pc pc' : Nat} {L : List (Nat × Value)} {st : List Value} {w : q_W} {Q : Option Value → q_W → Prop} {n : Int} (hd : decode M.2.1 pc = .ok (.sipush n, 3)) (hp : pc + 3 = pc') (hn : (Int16.ofInt n).toInt32 = Int32.ofInt n) (k : q_Go Γ M d bc bs pc' L (q_i n :: st) w Q) : q_Go Γ M d bc bs pc L (st) w Q := by
  subst hp
  exact q_pure (fun p e R s m args below meth c H locs cells slots Z ls C hl hcc hss h => lv_sipush C.1 C.2.1 hd hn h) k

theorem q_ldc {Γ : q_G} {M : q_M} {d bc bs pc pc' : Nat} {L : List (Nat × Value)} {st : List Value} {w : q_W} {Q : Option Value → q_W → Prop} {i : Nat} {n : Int} (hd : decode M.2.1 pc = .ok (.ldc i, 2)) (hp : pc + 2 = pc') (hn : Cond.constant M.1.cls i (Int32.ofInt n) ∈ q_words) (k : q_Go Γ M d bc bs pc' L (q_i n :: st) w Q) : q_Go Γ M d bc bs pc L (st) w Q := by
  subst hp
  exact q_pure (fun p e R s m args below meth c H locs cells slots Z ls C hl hcc hss h => lv_ldc C.1 C.2.1 C.2.2.2.1 (C.2.2.2.2.2.2.2.1 _ hn) hd h) k

theorem q_ldc2 {Γ : q_G} {M : q_M} {d bc bs pc pc' : Nat} {L : List (Nat × Value)} {st : List Value} {w : q_W} {Q : Option Value → q_W → Prop} {i : Nat} {n : Int64} (hd : decode M.2.1 pc = .ok (.ldc2_w i, 3)) (hp : pc + 3 = pc') (hn : Cond.constantLong M.1.cls i n ∈ q_words) (k : q_Go Γ M d bc bs pc' L (.long n :: st) w Q) : q_Go Γ M d bc bs pc L (st) w Q := by
  subst hp
  exact q_pure (fun p e R s m args below meth c H locs cells slots Z ls C hl hcc hss h => lv_ldc2 C.1 C.2.1 C.2.2.2.1 (C.2.2.2.2.2.2.2.1 _ hn) hd h) k

theorem q_lconst {Γ : q_G} {M : q_M} {d bc bs pc pc' : Nat} {L : List (Nat × Value)} {st : List Value} {w : q_W} {Q : Option Value → q_W → Prop} {n : Fin 2} {x : Int64} (hd : decode M.2.1 pc = .ok (.lconst n, 1)) (hp : pc + 1 = pc') (hn : Int64.ofNat (n : Nat) = x) (k : q_Go Γ M d bc bs pc' L (.long x :: st) w Q) : q_Go Γ M d bc bs pc L (st) w Q := by
  subst hp
  exact q_pure (fun p e R s m args below meth c H locs cells slots Z ls C hl hcc hss h => lv_lconst C.1 C.2.1 hd hn h) k

theorem q_iloadn {Γ : q_G} {M : q_M} {d bc bs pc pc' : Nat} {L : List (Nat × Value)} {st : List Value} {w : q_W} {Q : Option Value → q_W → Prop} {i : Fin 4} {z : Int} (j : Nat) (hd : decode M.2.1 pc = .ok (.iload_n i, 1)) (hp : pc + 1 = pc') (hj : L[j]? = some ((i : Nat), q_i z)) (k : q_Go Γ M d bc bs pc' L (q_i z :: st) w Q) : q_Go Γ M d bc bs pc L (st) w Q := by
  subst hp
  exact q_pure (fun p e R s m args below meth c H locs cells slots Z ls C hl hcc hss h => lv_iload_n C.1 C.2.1 hd rfl (lv_at hl j hj) h) k

theorem q_iload {Γ : q_G} {M : q_M} {d bc bs pc pc' : Nat} {L : List (Nat × Value)} {st : List Value} {w : q_W} {Q : Option Value → q_W → Prop} {i : Nat} {z : Int} (j : Nat) (hd : decode M.2.1 pc = .ok (.iload i, 2)) (hp : pc + 2 = pc') (hj : L[j]? = some (i, q_i z)) (k : q_Go Γ M d bc bs pc' L (q_i z :: st) w Q) : q_Go Γ M d bc bs pc L (st) w Q := by
  subst hp
  exact q_pure (fun p e R s m args below meth c H locs cells slots Z ls C hl hcc hss h => lv_iload C.1 C.2.1 hd (lv_at hl j hj) h) k

theorem q_lloadn {Γ : q_G} {M : q_M} {d bc bs pc pc' : Nat} {L : List (Nat × Value)} {st : List Value} {w : q_W} {Q : Option Value → q_W → Prop} {i : Fin 4} {z : Int64} (j : Nat) (hd : decode M.2.1 pc = .ok (.lload_n i, 1)) (hp : pc + 1 = pc') (hj : L[j]? = some ((i : Nat), .long z)) (k : q_Go Γ M d bc bs pc' L (.long z :: st) w Q) : q_Go Γ M d bc bs pc L (st) w Q := by
  subst hp
  exact q_pure (fun p e R s m args below meth c H locs cells slots Z ls C hl hcc hss h => lv_lload_n C.1 C.2.1 hd rfl (lv_at hl j hj) h) k

theorem q_lload {Γ : q_G} {M : q_M} {d bc bs pc pc' : Nat} {L : List (Nat × Value)} {st : List Value} {w : q_W} {Q : Option Value → q_W → Prop} {i : Nat} {z : Int64} (j : Nat) (hd : decode M.2.1 pc = .ok (.lload i, 2)) (hp : pc + 2 = pc') (hj : L[j]? = some (i, .long z)) (k : q_Go Γ M d bc bs pc' L (.long z :: st) w Q) : q_Go Γ M d bc bs pc L (st) w Q := by
  subst hp
  exact q_pure (fun p e R s m args below meth c H locs cells slots Z ls C hl hcc hss h => lv_lload C.1 C.2.1 hd (lv_at hl j hj) h) k

theorem q_aloadn {Γ : q_G} {M : q_M} {d bc bs pc pc' : Nat} {L : List (Nat × Value)} {st : List Value} {w : q_W} {Q : Option Value → q_W → Prop} {i : Fin 4} {z : Nat} (j : Nat) (hd : decode M.2.1 pc = .ok (.aload_n i, 1)) (hp : pc + 1 = pc') (hj : L[j]? = some ((i : Nat), .ref z)) (k : q_Go Γ M d bc bs pc' L (.ref z :: st) w Q) : q_Go Γ M d bc bs pc L (st) w Q := by
  subst hp
  exact q_pure (fun p e R s m args below meth c H locs cells slots Z ls C hl hcc hss h => lv_aload_n C.1 C.2.1 hd rfl (lv_at hl j hj) h) k

theorem q_aload {Γ : q_G} {M : q_M} {d bc bs pc pc' : Nat} {L : List (Nat × Value)} {st : List Value} {w : q_W} {Q : Option Value → q_W → Prop} {i : Nat} {z : Nat} (j : Nat) (hd : decode M.2.1 pc = .ok (.aload i, 2)) (hp : pc + 2 = pc') (hj : L[j]? = some (i, .ref z)) (k : q_Go Γ M d bc bs pc' L (.ref z :: st) w Q) : q_Go Γ M d bc bs pc L (st) w Q := by
  subst hp
  exact q_pure (fun p e R s m args below meth c H locs cells slots Z ls C hl hcc hss h => lv_aload C.1 C.2.1 hd (lv_at hl j hj) h) k

theorem q_iadd {Γ : q_G} {M : q_M} {d bc bs pc pc' : Nat} {L : List (Nat × Value)} {st : List Value} {w : q_W} {Q : Option Value → q_W → Prop} {a b : Int} (hd : decode M.2.1 pc = .ok (.iadd, 1)) (hp : pc + 1 = pc') (k : q_Go Γ M d bc bs pc' L (q_i (a + b) :: st) w Q) : q_Go Γ M d bc bs pc L (q_i b :: q_i a :: st) w Q := by
  subst hp
  exact q_pure (fun p e R s m args below meth c H locs cells slots Z ls C hl hcc hss h => lv_iadd C.1 C.2.1 hd (by rw [← Int32.ofInt_add]; exact h)) k

theorem q_isub {Γ : q_G} {M : q_M} {d bc bs pc pc' : Nat} {L : List (Nat × Value)} {st : List Value} {w : q_W} {Q : Option Value → q_W → Prop} {a b : Int} (hd : decode M.2.1 pc = .ok (.isub, 1)) (hp : pc + 1 = pc') (k : q_Go Γ M d bc bs pc' L (q_i (a - b) :: st) w Q) : q_Go Γ M d bc bs pc L (q_i b :: q_i a :: st) w Q := by
  subst hp
  exact q_pure (fun p e R s m args below meth c H locs cells slots Z ls C hl hcc hss h => lv_isub C.1 C.2.1 hd (by rw [← Int32.ofInt_sub]; exact h)) k

theorem q_imul {Γ : q_G} {M : q_M} {d bc bs pc pc' : Nat} {L : List (Nat × Value)} {st : List Value} {w : q_W} {Q : Option Value → q_W → Prop} {a b : Int} (hd : decode M.2.1 pc = .ok (.imul, 1)) (hp : pc + 1 = pc') (k : q_Go Γ M d bc bs pc' L (q_i (a * b) :: st) w Q) : q_Go Γ M d bc bs pc L (q_i b :: q_i a :: st) w Q := by
  subst hp
  exact q_pure (fun p e R s m args below meth c H locs cells slots Z ls C hl hcc hss h => lv_imul C.1 C.2.1 hd (by rw [← Int32.ofInt_mul]; exact h)) k

theorem q_ineg {Γ : q_G} {M : q_M} {d bc bs pc pc' : Nat} {L : List (Nat × Value)} {st : List Value} {w : q_W} {Q : Option Value → q_W → Prop} {a : Int} (hd : decode M.2.1 pc = .ok (.ineg, 1)) (hp : pc + 1 = pc') (k : q_Go Γ M d bc bs pc' L (q_i (-a) :: st) w Q) : q_Go Γ M d bc bs pc L (q_i a :: st) w Q := by
  subst hp
  exact q_pure (fun p e R s m args below meth c H locs cells slots Z ls C hl hcc hss h => lv_ineg C.1 C.2.1 hd (by rw [← Int32.ofInt_neg]; exact h)) k

theorem q_div {a b : Int} (ha0 : 0 ≤ a) (ha : a ≤ 2147483647) (hb0 : 0 < b) (hb : b ≤ 2147483647) : Int32.ofInt a / Int32.ofInt b = Int32.ofInt (a / b) := by
  have h1 : a / b ≤ a := Int.ediv_le_self b ha0
  have h2 : 0 ≤ a / b := Int.ediv_nonneg ha0 (by omega)
  have hne : Int32.ofInt b ≠ -1 := by
    intro h
    have := congrArg Int32.toInt h
    rw [q_ti ⟨by omega, hb⟩] at this
    have e : (-1 : Int32).toInt = -1 := by decide
    omega
  rw [← Int32.toInt_inj, Int32.toInt_div_of_ne_right _ _ hne, q_ti ⟨by omega, ha⟩, q_ti ⟨by omega, hb⟩, q_ti ⟨by omega, by omega⟩, Int.tdiv_eq_ediv_of_nonneg ha0]
theorem q_nz {b : Int} (hb0 : 0 < b) (hb : b ≤ 2147483647) : ¬ Int32.ofInt b = 0 := by
  rw [q_0, q_eq ⟨by omega, hb⟩ q_rg0]
  omega

theorem q_idiv {Γ : q_G} {M : q_M} {d bc bs pc pc' : Nat} {L : List (Nat × Value)} {st : List Value} {w : q_W} {Q : Option Value → q_W → Prop} {a b : Int} (hd : decode M.2.1 pc = .ok (.idiv, 1)) (hp : pc + 1 = pc') (ha0 : 0 ≤ a) (ha : a ≤ 2147483647) (hb0 : 0 < b) (hb : b ≤ 2147483647) (k : q_Go Γ M d bc bs pc' L (q_i (a / b) :: st) w Q) : q_Go Γ M d bc bs pc L (q_i b :: q_i a :: st) w Q := by
  subst hp
  exact q_pure (fun p e R s m args below meth c H locs cells slots Z ls C hl hcc hss h => lv_idiv C.1 C.2.1 hd (q_nz hb0 hb) (by rw [q_div ha0 ha hb0 hb]; exact h)) k

theorem q_irem {Γ : q_G} {M : q_M} {d bc bs pc pc' : Nat} {L : List (Nat × Value)} {st : List Value} {w : q_W} {Q : Option Value → q_W → Prop} {a b : Int} (hd : decode M.2.1 pc = .ok (.irem, 1)) (hp : pc + 1 = pc') (ha0 : 0 ≤ a) (ha : a ≤ 2147483647) (hb0 : 0 < b) (hb : b ≤ 2147483647) (k : q_Go Γ M d bc bs pc' L (q_i (a % b) :: st) w Q) : q_Go Γ M d bc bs pc L (q_i b :: q_i a :: st) w Q := by
  subst hp
  exact q_pure (fun p e R s m args below meth c H locs cells slots Z ls C hl hcc hss h => lv_irem C.1 C.2.1 hd (q_nz hb0 hb) (by rw [q_div ha0 ha hb0 hb, ← Int32.ofInt_mul, ← Int32.ofInt_sub, show a - a / b * b = a % b by rw [Int.emod_def, Int.mul_comm]]; exact h)) k

theorem q_ishl {Γ : q_G} {M : q_M} {d bc bs pc pc' : Nat} {L : List (Nat × Value)} {st : List Value} {w : q_W} {Q : Option Value → q_W → Prop} {x y : Int32} {z : Int} (hd : decode M.2.1 pc = .ok (.ishl, 1)) (hp : pc + 1 = pc') (hz : x <<< (y &&& 31) = Int32.ofInt z) (k : q_Go Γ M d bc bs pc' L (q_i z :: st) w Q) : q_Go Γ M d bc bs pc L (.int y :: .int x :: st) w Q := by
  subst hp
  exact q_pure (fun p e R s m args below meth c H locs cells slots Z ls C hl hcc hss h => lv_ishl C.1 C.2.1 hd (by rw [hz]; exact h)) k

theorem q_ishr {Γ : q_G} {M : q_M} {d bc bs pc pc' : Nat} {L : List (Nat × Value)} {st : List Value} {w : q_W} {Q : Option Value → q_W → Prop} {x y : Int32} {z : Int} (hd : decode M.2.1 pc = .ok (.ishr, 1)) (hp : pc + 1 = pc') (hz : x >>> (y &&& 31) = Int32.ofInt z) (k : q_Go Γ M d bc bs pc' L (q_i z :: st) w Q) : q_Go Γ M d bc bs pc L (.int y :: .int x :: st) w Q := by
  subst hp
  exact q_pure (fun p e R s m args below meth c H locs cells slots Z ls C hl hcc hss h => lv_ishr C.1 C.2.1 hd (by rw [hz]; exact h)) k

theorem q_iand {Γ : q_G} {M : q_M} {d bc bs pc pc' : Nat} {L : List (Nat × Value)} {st : List Value} {w : q_W} {Q : Option Value → q_W → Prop} {x y : Int32} {z : Int} (hd : decode M.2.1 pc = .ok (.iand, 1)) (hp : pc + 1 = pc') (hz : x &&& y = Int32.ofInt z) (k : q_Go Γ M d bc bs pc' L (q_i z :: st) w Q) : q_Go Γ M d bc bs pc L (.int y :: .int x :: st) w Q := by
  subst hp
  exact q_pure (fun p e R s m args below meth c H locs cells slots Z ls C hl hcc hss h => lv_iand C.1 C.2.1 hd (by rw [hz]; exact h)) k

theorem q_ior {Γ : q_G} {M : q_M} {d bc bs pc pc' : Nat} {L : List (Nat × Value)} {st : List Value} {w : q_W} {Q : Option Value → q_W → Prop} {x y : Int32} {z : Int} (hd : decode M.2.1 pc = .ok (.ior, 1)) (hp : pc + 1 = pc') (hz : x ||| y = Int32.ofInt z) (k : q_Go Γ M d bc bs pc' L (q_i z :: st) w Q) : q_Go Γ M d bc bs pc L (.int y :: .int x :: st) w Q := by
  subst hp
  exact q_pure (fun p e R s m args below meth c H locs cells slots Z ls C hl hcc hss h => lv_ior C.1 C.2.1 hd (by rw [hz]; exact h)) k

theorem q_iushr {Γ : q_G} {M : q_M} {d bc bs pc pc' : Nat} {L : List (Nat × Value)} {st : List Value} {w : q_W} {Q : Option Value → q_W → Prop} {x y : Int32} {z : Int} (hd : decode M.2.1 pc = .ok (.iushr, 1)) (hp : pc + 1 = pc') (hz : (x.toUInt32 >>> (y.toUInt32 &&& Int32.toUInt32 31)).toInt32 = Int32.ofInt z) (k : q_Go Γ M d bc bs pc' L (q_i z :: st) w Q) : q_Go Γ M d bc bs pc L (.int y :: .int x :: st) w Q := by
  subst hp
  exact q_pure (fun p e R s m args below meth c H locs cells slots Z ls C hl hcc hss h => lv_iushr C.1 C.2.1 hd hz h) k

theorem q_i2c {Γ : q_G} {M : q_M} {d bc bs pc pc' : Nat} {L : List (Nat × Value)} {st : List Value} {w : q_W} {Q : Option Value → q_W → Prop} {x : Int32} {z : Int} (hd : decode M.2.1 pc = .ok (.i2c, 1)) (hp : pc + 1 = pc') (hz : (x.toUInt32 % 65536).toInt32 = Int32.ofInt z) (k : q_Go Γ M d bc bs pc' L (q_i z :: st) w Q) : q_Go Γ M d bc bs pc L (.int x :: st) w Q := by
  subst hp
  exact q_pure (fun p e R s m args below meth c H locs cells slots Z ls C hl hcc hss h => lv_i2c C.1 C.2.1 hd hz h) k

theorem q_i2b {Γ : q_G} {M : q_M} {d bc bs pc pc' : Nat} {L : List (Nat × Value)} {st : List Value} {w : q_W} {Q : Option Value → q_W → Prop} {x : Int32} {z : Int} (hd : decode M.2.1 pc = .ok (.i2b, 1)) (hp : pc + 1 = pc') (hz : x.toInt8.toInt32 = Int32.ofInt z) (k : q_Go Γ M d bc bs pc' L (q_i z :: st) w Q) : q_Go Γ M d bc bs pc L (.int x :: st) w Q := by
  subst hp
  exact q_pure (fun p e R s m args below meth c H locs cells slots Z ls C hl hcc hss h => lv_i2b C.1 C.2.1 hd hz h) k

theorem q_i2l {Γ : q_G} {M : q_M} {d bc bs pc pc' : Nat} {L : List (Nat × Value)} {st : List Value} {w : q_W} {Q : Option Value → q_W → Prop} {x : Int32} {z : Int64} (hd : decode M.2.1 pc = .ok (.i2l, 1)) (hp : pc + 1 = pc') (hz : x.toInt64 = z) (k : q_Go Γ M d bc bs pc' L (.long z :: st) w Q) : q_Go Γ M d bc bs pc L (.int x :: st) w Q := by
  subst hp
  exact q_pure (fun p e R s m args below meth c H locs cells slots Z ls C hl hcc hss h => lv_i2l C.1 C.2.1 hd hz h) k

theorem q_l2i {Γ : q_G} {M : q_M} {d bc bs pc pc' : Nat} {L : List (Nat × Value)} {st : List Value} {w : q_W} {Q : Option Value → q_W → Prop} {x : Int64} {z : Int} (hd : decode M.2.1 pc = .ok (.l2i, 1)) (hp : pc + 1 = pc') (hz : x.toInt32 = Int32.ofInt z) (k : q_Go Γ M d bc bs pc' L (q_i z :: st) w Q) : q_Go Γ M d bc bs pc L (.long x :: st) w Q := by
  subst hp
  exact q_pure (fun p e R s m args below meth c H locs cells slots Z ls C hl hcc hss h => lv_l2i C.1 C.2.1 hd hz h) k

theorem q_land {Γ : q_G} {M : q_M} {d bc bs pc pc' : Nat} {L : List (Nat × Value)} {st : List Value} {w : q_W} {Q : Option Value → q_W → Prop} {x y : Int64} (hd : decode M.2.1 pc = .ok (.land, 1)) (hp : pc + 1 = pc') (k : q_Go Γ M d bc bs pc' L (.long (x &&& y) :: st) w Q) : q_Go Γ M d bc bs pc L (.long y :: .long x :: st) w Q := by
  subst hp
  exact q_pure (fun p e R s m args below meth c H locs cells slots Z ls C hl hcc hss h => lv_land C.1 C.2.1 hd h) k

theorem q_lor {Γ : q_G} {M : q_M} {d bc bs pc pc' : Nat} {L : List (Nat × Value)} {st : List Value} {w : q_W} {Q : Option Value → q_W → Prop} {x y : Int64} (hd : decode M.2.1 pc = .ok (.lor, 1)) (hp : pc + 1 = pc') (k : q_Go Γ M d bc bs pc' L (.long (x ||| y) :: st) w Q) : q_Go Γ M d bc bs pc L (.long y :: .long x :: st) w Q := by
  subst hp
  exact q_pure (fun p e R s m args below meth c H locs cells slots Z ls C hl hcc hss h => lv_lor C.1 C.2.1 hd h) k

theorem q_lshl {Γ : q_G} {M : q_M} {d bc bs pc pc' : Nat} {L : List (Nat × Value)} {st : List Value} {w : q_W} {Q : Option Value → q_W → Prop} {x z : Int64} {y : Int32} (hd : decode M.2.1 pc = .ok (.lshl, 1)) (hp : pc + 1 = pc') (hz : x <<< (y.toInt64 &&& 63) = z) (k : q_Go Γ M d bc bs pc' L (.long z :: st) w Q) : q_Go Γ M d bc bs pc L (.int y :: .long x :: st) w Q := by
  subst hp
  exact q_pure (fun p e R s m args below meth c H locs cells slots Z ls C hl hcc hss h => lv_lshl C.1 C.2.1 hd hz h) k

theorem q_lushr {Γ : q_G} {M : q_M} {d bc bs pc pc' : Nat} {L : List (Nat × Value)} {st : List Value} {w : q_W} {Q : Option Value → q_W → Prop} {x z : Int64} {y : Int32} (hd : decode M.2.1 pc = .ok (.lushr, 1)) (hp : pc + 1 = pc') (hz : (x.toUInt64 >>> (y.toInt64.toUInt64 &&& Int64.toUInt64 63)).toInt64 = z) (k : q_Go Γ M d bc bs pc' L (.long z :: st) w Q) : q_Go Γ M d bc bs pc L (.int y :: .long x :: st) w Q := by
  subst hp
  exact q_pure (fun p e R s m args below meth c H locs cells slots Z ls C hl hcc hss h => lv_lushr C.1 C.2.1 hd hz h) k

theorem q_lcmp {Γ : q_G} {M : q_M} {d bc bs pc pc' : Nat} {L : List (Nat × Value)} {st : List Value} {w : q_W} {Q : Option Value → q_W → Prop} {x y : Int64} {z : Int} (hd : decode M.2.1 pc = .ok (.lcmp, 1)) (hp : pc + 1 = pc') (hz : lg_cmp x y = Int32.ofInt z) (k : q_Go Γ M d bc bs pc' L (q_i z :: st) w Q) : q_Go Γ M d bc bs pc L (.long y :: .long x :: st) w Q := by
  subst hp
  exact q_pure (fun p e R s m args below meth c H locs cells slots Z ls C hl hcc hss h => W.lcmp C.1 C.2.1 hd (by rw [hz]; exact h)) k

theorem q_dup {Γ : q_G} {M : q_M} {d bc bs pc pc' : Nat} {L : List (Nat × Value)} {st : List Value} {w : q_W} {Q : Option Value → q_W → Prop} {v : Value} (hd : decode M.2.1 pc = .ok (.dup, 1)) (hp : pc + 1 = pc') (hv : v.category = 1) (k : q_Go Γ M d bc bs pc' L (v :: v :: st) w Q) : q_Go Γ M d bc bs pc L (v :: st) w Q := by
  subst hp
  exact q_pure (fun p e R s m args below meth c H locs cells slots Z ls C hl hcc hss h => lv_dup C.1 C.2.1 hd hv h) k

theorem q_dup2 {Γ : q_G} {M : q_M} {d bc bs pc pc' : Nat} {L : List (Nat × Value)} {st : List Value} {w : q_W} {Q : Option Value → q_W → Prop} {v u : Value} (hd : decode M.2.1 pc = .ok (.dup2, 1)) (hp : pc + 1 = pc') (hv : v.category = 1) (hu : u.category = 1) (k : q_Go Γ M d bc bs pc' L (v :: u :: v :: u :: st) w Q) : q_Go Γ M d bc bs pc L (v :: u :: st) w Q := by
  subst hp
  exact q_pure (fun p e R s m args below meth c H locs cells slots Z ls C hl hcc hss h => lv_dup2_11 C.1 C.2.1 hd hv hu h) k

theorem q_pop {Γ : q_G} {M : q_M} {d bc bs pc pc' : Nat} {L : List (Nat × Value)} {st : List Value} {w : q_W} {Q : Option Value → q_W → Prop} {v : Value} (hd : decode M.2.1 pc = .ok (.pop, 1)) (hp : pc + 1 = pc') (hv : v.category = 1) (k : q_Go Γ M d bc bs pc' L (st) w Q) : q_Go Γ M d bc bs pc L (v :: st) w Q := by
  subst hp
  exact q_pure (fun p e R s m args below meth c H locs cells slots Z ls C hl hcc hss h => lv_pop C.1 C.2.1 hd hv h) k

theorem q_null {Γ : q_G} {M : q_M} {d bc bs pc pc' : Nat} {L : List (Nat × Value)} {st : List Value} {w : q_W} {Q : Option Value → q_W → Prop}  (hd : decode M.2.1 pc = .ok (.aconst_null, 1)) (hp : pc + 1 = pc') (k : q_Go Γ M d bc bs pc' L (.null :: st) w Q) : q_Go Γ M d bc bs pc L (st) w Q := by
  subst hp
  exact q_pure (fun p e R s m args below meth c H locs cells slots Z ls C hl hcc hss h => lv_null C.1 C.2.1 hd h) k

theorem q_goto {Γ : q_G} {M : q_M} {d bc bs pc pc' : Nat} {L : List (Nat × Value)} {st : List Value} {w : q_W} {Q : Option Value → q_W → Prop} {off : Int} (hd : decode M.2.1 pc = .ok (.goto off, 3)) (ht : (pc : Int) + off = (pc' : Int)) (k : q_Go Γ M d bc bs pc' L (st) w Q) : q_Go Γ M d bc bs pc L (st) w Q :=
  q_pure (fun p e R s m args below meth c H locs cells slots Z ls C hl hcc hss h => lv_goto C.1 C.2.1 hd ht h) k
/-- another name for the place, the locals or the stack -/
theorem q_eqs {Γ : q_G} {M : q_M} {d bc bs pc pc' : Nat} {L : List (Nat × Value)} {st : List Value} {w : q_W} {Q : Option Value → q_W → Prop} {L' : List (Nat × Value)} {st' : List Value} (hp : pc = pc') (hL : L = L') (hs : st = st') (k : q_Go Γ M d bc bs pc' L' st' w Q) : q_Go Γ M d bc bs pc L (st) w Q := by
  subst hp; subst hL; subst hs; exact k
/-- fewer locals, in another order: by their places -/
theorem q_sub {Γ : q_G} {M : q_M} {d bc bs pc pc' : Nat} {L : List (Nat × Value)} {st : List Value} {w : q_W} {Q : Option Value → q_W → Prop} {L' : List (Nat × Value)} (ks : List Nat) (hL : lv_pick L ks = L') (k : q_Go Γ M d bc bs pc L' st w Q) : q_Go Γ M d bc bs pc L (st) w Q :=
  fun p e R s m args below meth c H locs cells slots Z ls C hc hs hW hS hl hr => k p e R s m args below meth c H locs cells slots Z ls C hc hs hW hS (lv_sub hl ks hL) hr
/-- what the world's numbers are is in range -/
theorem q_rng {Γ : q_G} {M : q_M} {d bc bs pc pc' : Nat} {L : List (Nat × Value)} {st : List Value} {w : q_W} {Q : Option Value → q_W → Prop} (k : (∀ a j, q_rg (w.2 a j)) → q_Go Γ M d bc bs pc L (st) w Q) : q_Go Γ M d bc bs pc L (st) w Q :=
  fun p e R s m args below meth c H locs cells slots Z ls C hc hs hW hS hl hr => k hW.2.2 p e R s m args below meth c H locs cells slots Z ls C hc hs hW hS hl hr
theorem q_mono {Γ : q_G} {M : q_M} {d bc bs pc pc' : Nat} {L : List (Nat × Value)} {st : List Value} {w : q_W} {Q : Option Value → q_W → Prop} {Q' : Option Value → q_W → Prop} (hQ : ∀ v w', Q' v w' → Q v w') (k : q_Go Γ M d bc bs pc L st w Q') : q_Go Γ M d bc bs pc L (st) w Q :=
  fun p e R s m args below meth c H locs cells slots Z ls C hc hs hW hS hl hr => k p e R s m args below meth c H locs cells slots Z ls C hc hs hW hS hl (fun v pc' w' H' locs' cells' slots' ls' a1 a2 a3 a4 a5 a6 => hr v pc' w' H' locs' cells' slots' ls' a1 a2 a3 a4 (hQ v w' a5) a6)

theorem q_icmp_eq {Γ : q_G} {M : q_M} {d bc bs pc pc' : Nat} {L : List (Nat × Value)} {st : List Value} {w : q_W} {Q : Option Value → q_W → Prop} {a b off : Int} {tgt : Nat} (hd : decode M.2.1 pc = .ok (.if_icmp .eq off, 3)) (ht : (pc : Int) + off = (tgt : Int)) (hp : pc + 3 = pc') (ra : q_rg a) (rb : q_rg b) (kt : a = b → q_Go Γ M d bc bs tgt L (st) w Q) (kf : ¬ a = b → q_Go Γ M d bc bs pc' L (st) w Q) : q_Go Γ M d bc bs pc L (q_i b :: q_i a :: st) w Q := by
  subst hp
  exact fun p e R s m args below meth c H locs cells slots Z ls C hc hs hW hS hl hr => lv_icmp_eq C.1 C.2.1 hd ht (fun c0 => kt ((q_eq ra rb).mp c0) p e R s m args below meth c H locs cells slots Z ls C hc hs hW hS hl hr) (fun c0 => kf (fun h => c0 ((q_eq ra rb).mpr h)) p e R s m args below meth c H locs cells slots Z ls C hc hs hW hS hl hr)

theorem q_if_eq {Γ : q_G} {M : q_M} {d bc bs pc pc' : Nat} {L : List (Nat × Value)} {st : List Value} {w : q_W} {Q : Option Value → q_W → Prop} {a off : Int} {tgt : Nat} (hd : decode M.2.1 pc = .ok (.ifCond .eq off, 3)) (ht : (pc : Int) + off = (tgt : Int)) (hp : pc + 3 = pc') (ra : q_rg a) (kt : a = 0 → q_Go Γ M d bc bs tgt L (st) w Q) (kf : ¬ a = 0 → q_Go Γ M d bc bs pc' L (st) w Q) : q_Go Γ M d bc bs pc L (q_i a :: st) w Q := by
  subst hp
  have rb := q_rg0
  exact fun p e R s m args below meth c H locs cells slots Z ls C hc hs hW hS hl hr => lv_if_eq C.1 C.2.1 hd ht (fun c0 => kt ((q_eq ra rb).mp c0) p e R s m args below meth c H locs cells slots Z ls C hc hs hW hS hl hr) (fun c0 => kf (fun h => c0 ((q_eq ra rb).mpr h)) p e R s m args below meth c H locs cells slots Z ls C hc hs hW hS hl hr)

theorem q_icmp_ne {Γ : q_G} {M : q_M} {d bc bs pc pc' : Nat} {L : List (Nat × Value)} {st : List Value} {w : q_W} {Q : Option Value → q_W → Prop} {a b off : Int} {tgt : Nat} (hd : decode M.2.1 pc = .ok (.if_icmp .ne off, 3)) (ht : (pc : Int) + off = (tgt : Int)) (hp : pc + 3 = pc') (ra : q_rg a) (rb : q_rg b) (kt : ¬ a = b → q_Go Γ M d bc bs tgt L (st) w Q) (kf : a = b → q_Go Γ M d bc bs pc' L (st) w Q) : q_Go Γ M d bc bs pc L (q_i b :: q_i a :: st) w Q := by
  subst hp
  exact fun p e R s m args below meth c H locs cells slots Z ls C hc hs hW hS hl hr => lv_icmp_ne C.1 C.2.1 hd ht (fun c0 => kt ((not_congr (q_eq ra rb)).mp c0) p e R s m args below meth c H locs cells slots Z ls C hc hs hW hS hl hr) (fun c0 => kf ((q_eq ra rb).mp c0) p e R s m args below meth c H locs cells slots Z ls C hc hs hW hS hl hr)

theorem q_if_ne {Γ : q_G} {M : q_M} {d bc bs pc pc' : Nat} {L : List (Nat × Value)} {st : List Value} {w : q_W} {Q : Option Value → q_W → Prop} {a off : Int} {tgt : Nat} (hd : decode M.2.1 pc = .ok (.ifCond .ne off, 3)) (ht : (pc : Int) + off = (tgt : Int)) (hp : pc + 3 = pc') (ra : q_rg a) (kt : ¬ a = 0 → q_Go Γ M d bc bs tgt L (st) w Q) (kf : a = 0 → q_Go Γ M d bc bs pc' L (st) w Q) : q_Go Γ M d bc bs pc L (q_i a :: st) w Q := by
  subst hp
  have rb := q_rg0
  exact fun p e R s m args below meth c H locs cells slots Z ls C hc hs hW hS hl hr => lv_if_ne C.1 C.2.1 hd ht (fun c0 => kt ((not_congr (q_eq ra rb)).mp c0) p e R s m args below meth c H locs cells slots Z ls C hc hs hW hS hl hr) (fun c0 => kf ((q_eq ra rb).mp c0) p e R s m args below meth c H locs cells slots Z ls C hc hs hW hS hl hr)

theorem q_icmp_lt {Γ : q_G} {M : q_M} {d bc bs pc pc' : Nat} {L : List (Nat × Value)} {st : List Value} {w : q_W} {Q : Option Value → q_W → Prop} {a b off : Int} {tgt : Nat} (hd : decode M.2.1 pc = .ok (.if_icmp .lt off, 3)) (ht : (pc : Int) + off = (tgt : Int)) (hp : pc + 3 = pc') (ra : q_rg a) (rb : q_rg b) (kt : a < b → q_Go Γ M d bc bs tgt L (st) w Q) (kf : b ≤ a → q_Go Γ M d bc bs pc' L (st) w Q) : q_Go Γ M d bc bs pc L (q_i b :: q_i a :: st) w Q := by
  subst hp
  exact fun p e R s m args below meth c H locs cells slots Z ls C hc hs hW hS hl hr => lv_icmp_lt C.1 C.2.1 hd ht (fun c0 => kt ((q_lt ra rb).mp c0) p e R s m args below meth c H locs cells slots Z ls C hc hs hW hS hl hr) (fun c0 => kf (Int.not_lt.mp (fun h => c0 ((q_lt ra rb).mpr h))) p e R s m args below meth c H locs cells slots Z ls C hc hs hW hS hl hr)

theorem q_if_lt {Γ : q_G} {M : q_M} {d bc bs pc pc' : Nat} {L : List (Nat × Value)} {st : List Value} {w : q_W} {Q : Option Value → q_W → Prop} {a off : Int} {tgt : Nat} (hd : decode M.2.1 pc = .ok (.ifCond .lt off, 3)) (ht : (pc : Int) + off = (tgt : Int)) (hp : pc + 3 = pc') (ra : q_rg a) (kt : a < 0 → q_Go Γ M d bc bs tgt L (st) w Q) (kf : 0 ≤ a → q_Go Γ M d bc bs pc' L (st) w Q) : q_Go Γ M d bc bs pc L (q_i a :: st) w Q := by
  subst hp
  have rb := q_rg0
  exact fun p e R s m args below meth c H locs cells slots Z ls C hc hs hW hS hl hr => lv_if_lt C.1 C.2.1 hd ht (fun c0 => kt ((q_lt ra rb).mp c0) p e R s m args below meth c H locs cells slots Z ls C hc hs hW hS hl hr) (fun c0 => kf (Int.not_lt.mp (fun h => c0 ((q_lt ra rb).mpr h))) p e R s m args below meth c H locs cells slots Z ls C hc hs hW hS hl hr)

theorem q_icmp_ge {Γ : q_G} {M : q_M} {d bc bs pc pc' : Nat} {L : List (Nat × Value)} {st : List Value} {w : q_W} {Q : Option Value → q_W → Prop} {a b off : Int} {tgt : Nat} (hd : decode M.2.1 pc = .ok (.if_icmp .ge off, 3)) (ht : (pc : Int) + off = (tgt : Int)) (hp : pc + 3 = pc') (ra : q_rg a) (rb : q_rg b) (kt : b ≤ a → q_Go Γ M d bc bs tgt L (st) w Q) (kf : a < b → q_Go Γ M d bc bs pc' L (st) w Q) : q_Go Γ M d bc bs pc L (q_i b :: q_i a :: st) w Q := by
  subst hp
  exact fun p e R s m args below meth c H locs cells slots Z ls C hc hs hW hS hl hr => lv_icmp_ge C.1 C.2.1 hd ht (fun c0 => kt ((q_le rb ra).mp c0) p e R s m args below meth c H locs cells slots Z ls C hc hs hW hS hl hr) (fun c0 => kf (Int.not_le.mp (fun h => c0 ((q_le rb ra).mpr h))) p e R s m args below meth c H locs cells slots Z ls C hc hs hW hS hl hr)

theorem q_if_ge {Γ : q_G} {M : q_M} {d bc bs pc pc' : Nat} {L : List (Nat × Value)} {st : List Value} {w : q_W} {Q : Option Value → q_W → Prop} {a off : Int} {tgt : Nat} (hd : decode M.2.1 pc = .ok (.ifCond .ge off, 3)) (ht : (pc : Int) + off = (tgt : Int)) (hp : pc + 3 = pc') (ra : q_rg a) (kt : 0 ≤ a → q_Go Γ M d bc bs tgt L (st) w Q) (kf : a < 0 → q_Go Γ M d bc bs pc' L (st) w Q) : q_Go Γ M d bc bs pc L (q_i a :: st) w Q := by
  subst hp
  have rb := q_rg0
  exact fun p e R s m args below meth c H locs cells slots Z ls C hc hs hW hS hl hr => lv_if_ge C.1 C.2.1 hd ht (fun c0 => kt ((q_le rb ra).mp c0) p e R s m args below meth c H locs cells slots Z ls C hc hs hW hS hl hr) (fun c0 => kf (Int.not_le.mp (fun h => c0 ((q_le rb ra).mpr h))) p e R s m args below meth c H locs cells slots Z ls C hc hs hW hS hl hr)

theorem q_icmp_gt {Γ : q_G} {M : q_M} {d bc bs pc pc' : Nat} {L : List (Nat × Value)} {st : List Value} {w : q_W} {Q : Option Value → q_W → Prop} {a b off : Int} {tgt : Nat} (hd : decode M.2.1 pc = .ok (.if_icmp .gt off, 3)) (ht : (pc : Int) + off = (tgt : Int)) (hp : pc + 3 = pc') (ra : q_rg a) (rb : q_rg b) (kt : b < a → q_Go Γ M d bc bs tgt L (st) w Q) (kf : a ≤ b → q_Go Γ M d bc bs pc' L (st) w Q) : q_Go Γ M d bc bs pc L (q_i b :: q_i a :: st) w Q := by
  subst hp
  exact fun p e R s m args below meth c H locs cells slots Z ls C hc hs hW hS hl hr => lv_icmp_gt C.1 C.2.1 hd ht (fun c0 => kt ((q_lt rb ra).mp c0) p e R s m args below meth c H locs cells slots Z ls C hc hs hW hS hl hr) (fun c0 => kf (Int.not_lt.mp (fun h => c0 ((q_lt rb ra).mpr h))) p e R s m args below meth c H locs cells slots Z ls C hc hs hW hS hl hr)

theorem q_if_gt {Γ : q_G} {M : q_M} {d bc bs pc pc' : Nat} {L : List (Nat × Value)} {st : List Value} {w : q_W} {Q : Option Value → q_W → Prop} {a off : Int} {tgt : Nat} (hd : decode M.2.1 pc = .ok (.ifCond .gt off, 3)) (ht : (pc : Int) + off = (tgt : Int)) (hp : pc + 3 = pc') (ra : q_rg a) (kt : 0 < a → q_Go Γ M d bc bs tgt L (st) w Q) (kf : a ≤ 0 → q_Go Γ M d bc bs pc' L (st) w Q) : q_Go Γ M d bc bs pc L (q_i a :: st) w Q := by
  subst hp
  have rb := q_rg0
  exact fun p e R s m args below meth c H locs cells slots Z ls C hc hs hW hS hl hr => lv_if_gt C.1 C.2.1 hd ht (fun c0 => kt ((q_lt rb ra).mp c0) p e R s m args below meth c H locs cells slots Z ls C hc hs hW hS hl hr) (fun c0 => kf (Int.not_lt.mp (fun h => c0 ((q_lt rb ra).mpr h))) p e R s m args below meth c H locs cells slots Z ls C hc hs hW hS hl hr)

theorem q_icmp_le {Γ : q_G} {M : q_M} {d bc bs pc pc' : Nat} {L : List (Nat × Value)} {st : List Value} {w : q_W} {Q : Option Value → q_W → Prop} {a b off : Int} {tgt : Nat} (hd : decode M.2.1 pc = .ok (.if_icmp .le off, 3)) (ht : (pc : Int) + off = (tgt : Int)) (hp : pc + 3 = pc') (ra : q_rg a) (rb : q_rg b) (kt : a ≤ b → q_Go Γ M d bc bs tgt L (st) w Q) (kf : b < a → q_Go Γ M d bc bs pc' L (st) w Q) : q_Go Γ M d bc bs pc L (q_i b :: q_i a :: st) w Q := by
  subst hp
  exact fun p e R s m args below meth c H locs cells slots Z ls C hc hs hW hS hl hr => lv_icmp_le C.1 C.2.1 hd ht (fun c0 => kt ((q_le ra rb).mp c0) p e R s m args below meth c H locs cells slots Z ls C hc hs hW hS hl hr) (fun c0 => kf (Int.not_le.mp (fun h => c0 ((q_le ra rb).mpr h))) p e R s m args below meth c H locs cells slots Z ls C hc hs hW hS hl hr)

theorem q_if_le {Γ : q_G} {M : q_M} {d bc bs pc pc' : Nat} {L : List (Nat × Value)} {st : List Value} {w : q_W} {Q : Option Value → q_W → Prop} {a off : Int} {tgt : Nat} (hd : decode M.2.1 pc = .ok (.ifCond .le off, 3)) (ht : (pc : Int) + off = (tgt : Int)) (hp : pc + 3 = pc') (ra : q_rg a) (kt : a ≤ 0 → q_Go Γ M d bc bs tgt L (st) w Q) (kf : 0 < a → q_Go Γ M d bc bs pc' L (st) w Q) : q_Go Γ M d bc bs pc L (q_i a :: st) w Q := by
  subst hp
  have rb := q_rg0
  exact fun p e R s m args below meth c H locs cells slots Z ls C hc hs hW hS hl hr => lv_if_le C.1 C.2.1 hd ht (fun c0 => kt ((q_le ra rb).mp c0) p e R s m args below meth c H locs cells slots Z ls C hc hs hW hS hl hr) (fun c0 => kf (Int.not_le.mp (fun h => c0 ((q_le ra rb).mpr h))) p e R s m args below meth c H locs cells slots Z ls C hc hs hW hS hl hr)

/-- a truth value -/
def q_bi (P : Prop) [Decidable P] : Int := if P then 1 else 0
theorem q_bi_t {P : Prop} [Decidable P] (h : P) : q_bi P = 1 := if_pos h
theorem q_bi_f {P : Prop} [Decidable P] (h : ¬ P) : q_bi P = 0 := if_neg h
theorem q_bi_rg (P : Prop) [Decidable P] : q_rg (q_bi P) := by unfold q_bi; split <;> decide
theorem q_if_eq_b {Γ : q_G} {M : q_M} {d bc bs pc pc' : Nat} {L : List (Nat × Value)} {st : List Value} {w : q_W} {Q : Option Value → q_W → Prop} {P : Prop} [Decidable P] {off : Int} {tgt : Nat} (hd : decode M.2.1 pc = .ok (.ifCond .eq off, 3)) (ht : (pc : Int) + off = (tgt : Int)) (hp : pc + 3 = pc') (kt : ¬ P → q_Go Γ M d bc bs tgt L (st) w Q) (kf : P → q_Go Γ M d bc bs pc' L (st) w Q) : q_Go Γ M d bc bs pc L (q_i (q_bi P) :: st) w Q :=
  q_if_eq hd ht hp (q_bi_rg P) (fun h => kt (fun hP => by rw [q_bi_t hP] at h; cases h)) (fun h => kf (Decidable.byContradiction fun hP => h (q_bi_f hP)))
theorem q_if_ne_b {Γ : q_G} {M : q_M} {d bc bs pc pc' : Nat} {L : List (Nat × Value)} {st : List Value} {w : q_W} {Q : Option Value → q_W → Prop} {P : Prop} [Decidable P] {off : Int} {tgt : Nat} (hd : decode M.2.1 pc = .ok (.ifCond .ne off, 3)) (ht : (pc : Int) + off = (tgt : Int)) (hp : pc + 3 = pc') (kt : P → q_Go Γ M d bc bs tgt L (st) w Q) (kf : ¬ P → q_Go Γ M d bc bs pc' L (st) w Q) : q_Go Γ M d bc bs pc L (q_i (q_bi P) :: st) w Q :=
  q_if_ne hd ht hp (q_bi_rg P) (fun h => kt (Decidable.byContradiction fun hP => h (q_bi_f hP))) (fun h => kf (fun hP => by rw [q_bi_t hP] at h; cases h))
theorem q_tableIn {Γ : q_G} {M : q_M} {d bc bs pc pc' : Nat} {L : List (Nat × Value)} {st : List Value} {w : q_W} {Q : Option Value → q_W → Prop} {dflt lo hi a off : Int} {offs : Array Int} {len : Nat} (hd : decode M.2.1 pc = .ok (.tableswitch dflt lo hi offs, len)) (ra : q_rg a) (h1 : lo ≤ a) (h2 : a ≤ hi) (ho : offs[(a - lo).toNat]? = some off) (ht : (pc : Int) + off = (pc' : Int)) (k : q_Go Γ M d bc bs pc' L (st) w Q) : q_Go Γ M d bc bs pc L (q_i a :: st) w Q :=
  q_pure (fun p e R s m args below meth c H locs cells slots Z ls C hl hcc hss h => lv_tableIn C.1 C.2.1 hd (by rw [q_ti ra]; omega) (by rw [q_ti ra]; omega) (by rw [q_ti ra]; exact ho) ht h) k
theorem q_tableOut {Γ : q_G} {M : q_M} {d bc bs pc pc' : Nat} {L : List (Nat × Value)} {st : List Value} {w : q_W} {Q : Option Value → q_W → Prop} {dflt lo hi a : Int} {offs : Array Int} {len : Nat} (hd : decode M.2.1 pc = .ok (.tableswitch dflt lo hi offs, len)) (ra : q_rg a) (h1 : a < lo ∨ hi < a) (ht : (pc : Int) + dflt = (pc' : Int)) (k : q_Go Γ M d bc bs pc' L (st) w Q) : q_Go Γ M d bc bs pc L (q_i a :: st) w Q :=
  q_pure (fun p e R s m args below meth c H locs cells slots Z ls C hl hcc hss h => lv_tableOut C.1 C.2.1 hd (by rw [q_ti ra]; omega) ht h) k
theorem q_lookup {Γ : q_G} {M : q_M} {d bc bs pc pc' : Nat} {L : List (Nat × Value)} {st : List Value} {w : q_W} {Q : Option Value → q_W → Prop} {dflt a off : Int} {ps : Array (Int × Int)} {len : Nat} (hd : decode M.2.1 pc = .ok (.lookupswitch dflt ps, len)) (ra : q_rg a) (hs : (ps.toList.zip (ps.toList.drop 1)).all (fun (a, next) => a.1 < next.1) = true) (ho : Op.lookupswitch.offset ps.toList dflt a = off) (ht : (pc : Int) + off = (pc' : Int)) (k : q_Go Γ M d bc bs pc' L (st) w Q) : q_Go Γ M d bc bs pc L (q_i a :: st) w Q :=
  q_pure (fun p e R s m args below meth c H locs cells slots Z ls C hl hcc hss h => lv_lookup C.1 C.2.1 hd hs (by rw [q_ti ra]; exact ho) ht h) k

theorem q_istoren {Γ : q_G} {M : q_M} {d bc bs pc pc' : Nat} {L : List (Nat × Value)} {st : List Value} {w : q_W} {Q : Option Value → q_W → Prop} {i' : Fin 4} {i : Nat} {z : Int} {L' : List (Nat × Value)} (hd : decode M.2.1 pc = .ok ((.istore_n i'), 1)) (hp : pc + 1 = pc') (hi : (i' : Nat) = i) (hn : i < M.2.2.1) (hL : (i, q_i z) :: L.filter (fun q => !(q.1 == i) && !(q.1 + 1 == i && q.2.category == 2)) = L') (k : q_Go Γ M d bc bs pc' L' st w Q) : q_Go Γ M d bc bs pc L (q_i z :: st) w Q := by
  subst hp
  exact fun p e R s m args below meth c H locs cells slots Z ls C hc hs hW hS hl hr => lv_istore_n C.1 C.2.1 hd hi hl hn hL fun ls' hl' => k p e R s m args below meth c H locs cells slots Z ls' C hc hs hW hS hl' hr

theorem q_istore {Γ : q_G} {M : q_M} {d bc bs pc pc' : Nat} {L : List (Nat × Value)} {st : List Value} {w : q_W} {Q : Option Value → q_W → Prop} {i : Nat} {z : Int} {L' : List (Nat × Value)} (hd : decode M.2.1 pc = .ok ((.istore i), 2)) (hp : pc + 2 = pc') (hn : i < M.2.2.1) (hL : (i, q_i z) :: L.filter (fun q => !(q.1 == i) && !(q.1 + 1 == i && q.2.category == 2)) = L') (k : q_Go Γ M d bc bs pc' L' st w Q) : q_Go Γ M d bc bs pc L (q_i z :: st) w Q := by
  subst hp
  exact fun p e R s m args below meth c H locs cells slots Z ls C hc hs hW hS hl hr => lv_istore C.1 C.2.1 hd hl hn hL fun ls' hl' => k p e R s m args below meth c H locs cells slots Z ls' C hc hs hW hS hl' hr

theorem q_astoren {Γ : q_G} {M : q_M} {d bc bs pc pc' : Nat} {L : List (Nat × Value)} {st : List Value} {w : q_W} {Q : Option Value → q_W → Prop} {i' : Fin 4} {i : Nat} {z : Nat} {L' : List (Nat × Value)} (hd : decode M.2.1 pc = .ok ((.astore_n i'), 1)) (hp : pc + 1 = pc') (hi : (i' : Nat) = i) (hn : i < M.2.2.1) (hL : (i, .ref z) :: L.filter (fun q => !(q.1 == i) && !(q.1 + 1 == i && q.2.category == 2)) = L') (k : q_Go Γ M d bc bs pc' L' st w Q) : q_Go Γ M d bc bs pc L (.ref z :: st) w Q := by
  subst hp
  exact fun p e R s m args below meth c H locs cells slots Z ls C hc hs hW hS hl hr => lv_astore_n C.1 C.2.1 hd hi hl hn hL fun ls' hl' => k p e R s m args below meth c H locs cells slots Z ls' C hc hs hW hS hl' hr

theorem q_astore {Γ : q_G} {M : q_M} {d bc bs pc pc' : Nat} {L : List (Nat × Value)} {st : List Value} {w : q_W} {Q : Option Value → q_W → Prop} {i : Nat} {z : Nat} {L' : List (Nat × Value)} (hd : decode M.2.1 pc = .ok ((.astore i), 2)) (hp : pc + 2 = pc') (hn : i < M.2.2.1) (hL : (i, .ref z) :: L.filter (fun q => !(q.1 == i) && !(q.1 + 1 == i && q.2.category == 2)) = L') (k : q_Go Γ M d bc bs pc' L' st w Q) : q_Go Γ M d bc bs pc L (.ref z :: st) w Q := by
  subst hp
  exact fun p e R s m args below meth c H locs cells slots Z ls C hc hs hW hS hl hr => lv_astore C.1 C.2.1 hd hl hn hL fun ls' hl' => k p e R s m args below meth c H locs cells slots Z ls' C hc hs hW hS hl' hr

theorem q_lstoren {Γ : q_G} {M : q_M} {d bc bs pc pc' : Nat} {L : List (Nat × Value)} {st : List Value} {w : q_W} {Q : Option Value → q_W → Prop} {i' : Fin 4} {i : Nat} {z : Int64} {L' : List (Nat × Value)} (hd : decode M.2.1 pc = .ok ((.lstore_n i'), 1)) (hp : pc + 1 = pc') (hi : (i' : Nat) = i) (hn : i + 1 < M.2.2.1) (hL : (i, .long z) :: L.filter (fun q => !(q.1 == i) && (!(q.1 == i + 1) && !(q.1 + 1 == i && q.2.category == 2))) = L') (k : q_Go Γ M d bc bs pc' L' st w Q) : q_Go Γ M d bc bs pc L (.long z :: st) w Q := by
  subst hp
  exact fun p e R s m args below meth c H locs cells slots Z ls C hc hs hW hS hl hr => lv_lstore_n C.1 C.2.1 hd hi hl hn hL fun ls' hl' => k p e R s m args below meth c H locs cells slots Z ls' C hc hs hW hS hl' hr

theorem q_lstore {Γ : q_G} {M : q_M} {d bc bs pc pc' : Nat} {L : List (Nat × Value)} {st : List Value} {w : q_W} {Q : Option Value → q_W → Prop} {i : Nat} {z : Int64} {L' : List (Nat × Value)} (hd : decode M.2.1 pc = .ok ((.lstore i), 2)) (hp : pc + 2 = pc') (hn : i + 1 < M.2.2.1) (hL : (i, .long z) :: L.filter (fun q => !(q.1 == i) && (!(q.1 == i + 1) && !(q.1 + 1 == i && q.2.category == 2))) = L') (k : q_Go Γ M d bc bs pc' L' st w Q) : q_Go Γ M d bc bs pc L (.long z :: st) w Q := by
  subst hp
  exact fun p e R s m args below meth c H locs cells slots Z ls C hc hs hW hS hl hr => lv_lstore C.1 C.2.1 hd hl hn hL fun ls' hl' => k p e R s m args below meth c H locs cells slots Z ls' C hc hs hW hS hl' hr

theorem q_iinc {Γ : q_G} {M : q_M} {d bc bs pc pc' : Nat} {L : List (Nat × Value)} {st : List Value} {w : q_W} {Q : Option Value → q_W → Prop} {i : Nat} {n z : Int} {L' : List (Nat × Value)} (j : Nat) (hd : decode M.2.1 pc = .ok (.iinc i n, 3)) (hp : pc + 3 = pc') (hj : L[j]? = some (i, q_i z)) (hn : i < M.2.2.1) (hL : (i, q_i (z + n)) :: L.filter (fun q => !(q.1 == i) && !(q.1 + 1 == i && q.2.category == 2)) = L') (k : q_Go Γ M d bc bs pc' L' st w Q) : q_Go Γ M d bc bs pc L (st) w Q := by
  subst hp
  exact fun p e R s m args below meth c H locs cells slots Z ls C hc hs hW hS hl hr => lv_iinc C.1 C.2.1 hd hl hj (Int32.ofInt_add z n).symm hn hL fun ls' hl' => k p e R s m args below meth c H locs cells slots Z ls' C hc hs hW hS hl' hr
/-- a name for the number on top -/
theorem q_top {Γ : q_G} {M : q_M} {d bc bs pc pc' : Nat} {L : List (Nat × Value)} {st : List Value} {w : q_W} {Q : Option Value → q_W → Prop} {z : Int} (k : ∀ y : Int, y = z → q_Go Γ M d bc bs pc L (q_i y :: st) w Q) : q_Go Γ M d bc bs pc L (q_i z :: st) w Q := k z rfl
theorem q_topL {Γ : q_G} {M : q_M} {d bc bs pc pc' : Nat} {L : List (Nat × Value)} {st : List Value} {w : q_W} {Q : Option Value → q_W → Prop} {z : Int64} (k : ∀ y : Int64, y = z → q_Go Γ M d bc bs pc L (.long y :: st) w Q) : q_Go Γ M d bc bs pc L (.long z :: st) w Q := k z rfl
