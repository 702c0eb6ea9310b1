/-! calls by contract -/
def q_MB (M : q_M) (n : Nat) : Prop := Cond.code M.1 M.2.1 M.2.2.1 M.2.2.2 ∈ q_words ∧ Cond.initialized M.1.cls ∈ q_words ∧ (M.1.cls ≠ "java/lang/invoke/MethodHandle" ∧ M.1.cls ≠ "java/lang/invoke/VarHandle" ∧ (parseMethodDescriptor M.1.desc).map (fun d => d.parameters.length) = some n) ∧ plainName M.1.cls = true ∧ M.2.2.1 ≤ 21
def q_MV (M : q_M) (n : Nat) : Prop := q_MB M n ∧ Cond.instanceMethod M.1 ∈ q_words ∧ Cond.selects M.1.cls M.1 M.1 ∈ q_words
def q_MS (M : q_M) (n : Nat) : Prop := q_MB M n ∧ Cond.static M.1 ∈ q_words
def q_MI (M : q_M) (n : Nat) : Prop := q_MB M n ∧ Cond.instanceMethod M.1 ∈ q_words ∧ M.1.name = "<init>" ∧ M.2.2.2 = none
def q_Lk (own : String) (idx : Nat) (M : q_M) : Prop := Cond.methodLink own idx M.1 ∈ q_words ∨ ∃ host, Cond.methodLinkNest own idx M.1 host ∈ lw_tbl
theorem q_words_in {w : Cond} (h : w ∈ q_words) : w ∈ lw_tbl ∧ goodWord w = true := List.mem_filter.mp h
theorem q_good {M : q_M} {n : Nat} (h : q_MB M n) : GoodIn q_words (q_ws M) := by
  intro w hw
  rcases List.mem_cons.mp hw with rfl | hw
  · exact ⟨h.1, good_of_word (q_words_in h.1).2⟩
  · exact ⟨hw, good_of_word (q_words_in hw).2⟩
theorem q_blind (Γ : q_G) (av : List Value) (w : q_W) : FrameBlind (q_Pc Γ av w) := fun a U g mk h => ⟨h.1, h.2.1, q_Cx.warm (U := U.calling g mk a) (State.WarmedH.refl U) (fun _ _ _ => rfl) h.2.2.1, h.2.2.2⟩
section HI
variable {Γ : q_G} {M M' : q_M} {d d' bc bs bc' bs' bc2 bs2 pc pc' : Nat} {L : List (Nat × Value)} {st stk As : List Value} {w : q_W} {Q Q' : Option Value → q_W → Prop}
theorem q_goes {p : Program} {e : Env} {R : Room} {s : State} {m : MethodId} {args : Array Value} {below : List Frame} {meth : Method} {c : Code} {H : Heap} {locs : List Loc} {cells slots : Nat} {Z : State → Prop} {ls : Array Slot} {st0 rest : List Value} {a : Array Value}
    (hrun : va_Run p (q_l Γ) e R s m args below meth c H locs cells slots bc' bs' (F0 m pc ls st0) rest (q_Qc Γ Q' a) (q_A Γ)) (hS : va_S (q_A Γ) s.heap H locs)
    (kk : ∀ (v : Option Value) (w' : q_W) (H1 : Heap) (locs1 : List Loc), Q' v w' → q_Wd Γ w' H1 → va_S (q_A Γ) s.heap H1 locs1 → W p (q_l Γ) e R s m args below meth c H1 locs1 (cells + bc') (slots + bs') Z (F0 m (pc + 3) ls (v.toList ++ rest))) :
    W p (q_l Γ) e R s m args below meth c H locs cells slots Z (F0 m pc ls st0) := by
  intro T hT X
  obtain ⟨v, st₀, t, T', L', h0, X', hL, e1, e2, ⟨⟨v', w', hv, hQ, hW'⟩, hz, hk⟩, st⟩ := hrun T hT X
  cases hv
  rw [h0] at hz hk
  obtain ⟨t2, a1, b1⟩ := kk v w' T'.heap (locs ++ L') hQ (by rw [e1]; exact hW')
    ⟨Nat.le_trans hS.1 (by rw [e1]; exact hz), fun q h1 h2 => by rw [e1, hk q (Nat.lt_of_lt_of_le h1 hS.1) h2]; exact hS.2.1 q h1 h2, fun q hq => by
      rcases List.mem_append.mp hq with h | h
      · exact hS.2.2 q h
      · exact hL q h⟩ T' rfl X'
  exact ⟨t2, st t2 a1, b1⟩
theorem q_Pc_at {p : Program} {R : Room} {s : State} {m : MethodId} {args : Array Value} {meth : Method} {c : Code} {H : Heap} {locs : List Loc} {av : List Value} (C : q_QC Γ M d p s m args meth c R) (hW : q_Wd Γ w H) (hS : va_S (q_A Γ) s.heap H locs) : ∀ U : State, U.heap = H → s.WarmedH U.vm → q_Pc Γ av w av.toArray U := by
  intro U hU hWm
  refine ⟨rfl, by rw [hU]; exact hW, C.2.2.2.2.2.2.2.2.1.warm hWm (fun a h1 h2 => by rw [hU]; exact hS.2.1 a h1 h2), ?_⟩
  rw [hU, hW.1]
  omega
theorem q_room {R : Room} (h1 : d' + 1 ≤ d) (h2 : d ≤ R.frames ∧ 40 * d ≤ R.locals) {n : Nat} (hm : q_MB M' n) : (q_rm d' bc' bs').frames + 1 ≤ R.frames ∧ 8 + (M'.2.2.1 + 11) + (q_rm d' bc' bs').locals ≤ R.locals := by
  have h3 := hm.2.2.2.2
  show d' + 1 ≤ R.frames ∧ 8 + (M'.2.2.1 + 11) + 40 * d' ≤ R.locals
  omega
/-- an instance method -/
theorem q_callA {idx i n ci : Nat} {fl : List Nat} (hd : decode M.2.1 pc = .ok (.invokevirtual idx, 3)) (hp : pc + 3 = pc') (hl : q_Lk M.1.cls idx M') (hm : q_MV M' n) (hK : w.1[i]? = some (.inl (ci, fl))) (hci : (vwCl[ci]?).map (fun q => q.1) = some M'.1.cls)
    (g : q_Sp Γ M' d' bc' bs' (q_r Γ i :: As) w Q') (hst : stk = As.reverse ++ q_r Γ i :: st) (hn : As.length = n) (hls : (lg_sl (q_r Γ i :: As)).length ≤ M'.2.2.1) (hdd : d' + 1 ≤ d) (hcat : (st.map fun v => v.category).sum ≤ 8) (hbc : bc = bc' + bc2) (hbs : bs = bs' + bs2)
    (k : ∀ v w', Q' v w' → q_Go Γ M d bc2 bs2 pc' L (v.toList ++ st) w' Q) : q_Go Γ M d bc bs pc L stk w Q := by
  subst hp; subst hst; subst hbc; subst hbs
  intro p e R s m args below meth c H locs cells slots Z ls C hc hs hW hS hl2 hr
  have hts := C.2.2.2.2.2.2.2.1
  have hKk := C.2.2.2.2.2.2.2.2.1.1
  have hmet := q_met hm.1.2.2.2.1 hls g
  have hroom := q_room (bc' := bc') (bs' := bs') hdd C.2.2.2.2.2.2.2.2.2.2 hm.1
  obtain ⟨r, h1, cell, q1, q2, q3, -⟩ := hW.2.1 i _ hK
  have hr1 : r.1 = M'.1.cls := by
    rw [h1] at hci
    exact Option.some.inj hci
  have hcls := (hKk.1 ci r h1).2.1
  have hPV : PreV s H M'.1.cls (q_b Γ + i) (q_Pc Γ (q_r Γ i :: As) w) As := ⟨q_blind Γ _ w, ⟨cell, q1, by rw [q3]; rfl, by rw [q2, ← hr1]; exact hcls⟩, q_Pc_at C hW hS⟩
  have fin : ∀ (v : Option Value) (w' : q_W) (H1 : Heap) (locs1 : List Loc), Q' v w' → q_Wd Γ w' H1 → va_S (q_A Γ) s.heap H1 locs1 → W p (q_l Γ) e R s m args below meth c H1 locs1 (cells + bc') (slots + bs') Z (F0 m (pc + 3) ls (v.toList ++ st)) :=
    fun v w' H1 locs1 hQ hW1 hS1 => k v w' hQ p e R s m args below meth c H1 locs1 _ _ Z ls C (by omega) (by omega) hW1 hS1 hl2 (fun v2 pc2 w2 H2 locs2 cells2 slots2 ls2 a1 a2 => hr v2 pc2 w2 H2 locs2 cells2 slots2 ls2 (by omega) (by omega))
  rcases hl with hl | ⟨host, hl⟩
  · exact q_goes (va_runV (As := As) (rest := st) ⟨C.1, C.2.1, C.2.2.1, C.2.2.2.1, hts⟩ hmet ⟨callB_of n hts (q_good hm.1) rfl rfl rfl (hts _ hm.1.2.1) (hts _ hl) hm.1.2.2.1 hroom, hts _ hm.2.1, hts _ hm.2.2⟩ hPV rfl hn hl2.1 rfl (lv_room hcat) hd ⟨by omega, by omega⟩) hS fin
  · exact q_goes (va_runVN (As := As) (rest := st) (host := host) ⟨C.1, C.2.1, C.2.2.1, C.2.2.2.1, hts⟩ hmet ⟨va_cnB n hts (q_good hm.1) rfl rfl rfl (C.2.2.2.2.2.2.2.2.1.2.2.2.1 _ hl rfl) (hts _ hm.1.2.1) hm.1.2.2.1 hroom, hts _ hm.2.1, hts _ hm.2.2⟩ hPV rfl hn hl2.1 rfl (lv_room hcat) hd ⟨by omega, by omega⟩) hS fin
/-- a static method -/
theorem q_callB {idx n : Nat} (hd : decode M.2.1 pc = .ok (.invokestatic idx, 3)) (hp : pc + 3 = pc') (hl : q_Lk M.1.cls idx M') (hm : q_MS M' n)
    (g : q_Sp Γ M' d' bc' bs' As w Q') (hst : stk = As.reverse ++ st) (hn : As.length = n) (hls : (lg_sl As).length ≤ M'.2.2.1) (hdd : d' + 1 ≤ d) (hcat : (st.map fun v => v.category).sum ≤ 8) (hbc : bc = bc' + bc2) (hbs : bs = bs' + bs2)
    (k : ∀ v w', Q' v w' → q_Go Γ M d bc2 bs2 pc' L (v.toList ++ st) w' Q) : q_Go Γ M d bc bs pc L stk w Q := by
  subst hp; subst hst; subst hbc; subst hbs
  intro p e R s m args below meth c H locs cells slots Z ls C hc hs hW hS hl2 hr
  have hts := C.2.2.2.2.2.2.2.1
  have hmet := q_met hm.1.2.2.2.1 hls g
  have hroom := q_room (bc' := bc') (bs' := bs') hdd C.2.2.2.2.2.2.2.2.2.2 hm.1
  have hPS : PreS s H (q_Pc Γ As w) As := ⟨q_blind Γ _ w, q_Pc_at C hW hS⟩
  have fin : ∀ (v : Option Value) (w' : q_W) (H1 : Heap) (locs1 : List Loc), Q' v w' → q_Wd Γ w' H1 → va_S (q_A Γ) s.heap H1 locs1 → W p (q_l Γ) e R s m args below meth c H1 locs1 (cells + bc') (slots + bs') Z (F0 m (pc + 3) ls (v.toList ++ st)) :=
    fun v w' H1 locs1 hQ hW1 hS1 => k v w' hQ p e R s m args below meth c H1 locs1 _ _ Z ls C (by omega) (by omega) hW1 hS1 hl2 (fun v2 pc2 w2 H2 locs2 cells2 slots2 ls2 a1 a2 => hr v2 pc2 w2 H2 locs2 cells2 slots2 ls2 (by omega) (by omega))
  rcases hl with hl | ⟨host, hl⟩
  · exact q_goes (va_runS (As := As) (rest := st) ⟨C.1, C.2.1, C.2.2.1, C.2.2.2.1, hts⟩ hmet ⟨callB_of n hts (q_good hm.1) rfl rfl rfl (hts _ hm.1.2.1) (hts _ hl) hm.1.2.2.1 hroom, hts _ hm.2⟩ hPS rfl hn hl2.1 rfl (lv_room hcat) hd ⟨by omega, by omega⟩) hS fin
  · exact q_goes (va_runSN (As := As) (rest := st) (host := host) ⟨C.1, C.2.1, C.2.2.1, C.2.2.2.1, hts⟩ hmet ⟨va_cnB n hts (q_good hm.1) rfl rfl rfl (C.2.2.2.2.2.2.2.2.1.2.2.2.1 _ hl rfl) (hts _ hm.1.2.1) hm.1.2.2.1 hroom, hts _ hm.2, trivial⟩ hPS rfl hn hl2.1 rfl (lv_room hcat) hd ⟨by omega, by omega⟩) hS fin
/-- a constructor -/
theorem q_callC {idx i n : Nat} (hd : decode M.2.1 pc = .ok (.invokespecial idx, 3)) (hp : pc + 3 = pc') (hl : q_Lk M.1.cls idx M') (hm : q_MI M' n)
    (g : q_Sp Γ M' d' bc' bs' (q_r Γ i :: As) w Q') (hst : stk = As.reverse ++ q_r Γ i :: st) (hn : As.length = n) (hls : (lg_sl (q_r Γ i :: As)).length ≤ M'.2.2.1) (hdd : d' + 1 ≤ d) (hcat : (st.map fun v => v.category).sum ≤ 8) (hbc : bc = bc' + bc2) (hbs : bs = bs' + bs2)
    (k : ∀ v w', Q' v w' → q_Go Γ M d bc2 bs2 pc' L (v.toList ++ st) w' Q) : q_Go Γ M d bc bs pc L stk w Q := by
  subst hp; subst hst; subst hbc; subst hbs
  intro p e R s m args below meth c H locs cells slots Z ls C hc hs hW hS hl2 hr
  have hts := C.2.2.2.2.2.2.2.1
  have hmet := q_met hm.1.2.2.2.1 hls g
  have hroom := q_room (bc' := bc') (bs' := bs') hdd C.2.2.2.2.2.2.2.2.2.2 hm.1
  have hPS : PreS s H (q_Pc Γ (q_r Γ i :: As) w) (q_r Γ i :: As) := ⟨q_blind Γ _ w, q_Pc_at C hW hS⟩
  have hws : q_ws M' = Cond.code M'.1 M'.2.1 M'.2.2.1 none :: q_words := by unfold q_ws; rw [hm.2.2.2]
  have fin : ∀ (v : Option Value) (w' : q_W) (H1 : Heap) (locs1 : List Loc), Q' v w' → q_Wd Γ w' H1 → va_S (q_A Γ) s.heap H1 locs1 → W p (q_l Γ) e R s m args below meth c H1 locs1 (cells + bc') (slots + bs') Z (F0 m (pc + 3) ls (v.toList ++ st)) :=
    fun v w' H1 locs1 hQ hW1 hS1 => k v w' hQ p e R s m args below meth c H1 locs1 _ _ Z ls C (by omega) (by omega) hW1 hS1 hl2 (fun v2 pc2 w2 H2 locs2 cells2 slots2 ls2 a1 a2 => hr v2 pc2 w2 H2 locs2 cells2 slots2 ls2 (by omega) (by omega))
  rcases hl with hl | ⟨host, hl⟩
  · exact q_goes (va_runI (As := As) (rest := st) ⟨C.1, C.2.1, C.2.2.1, C.2.2.2.1, hts⟩ hmet ⟨callB_of n hts (q_good hm.1) hws rfl rfl (hts _ hm.1.2.1) (hts _ hl) hm.1.2.2.1 hroom, hm.2.2.1, hts _ hm.2.1⟩ hPS rfl hn hl2.1 rfl (lv_room hcat) hd ⟨by omega, by omega⟩) hS fin
  · exact q_goes (va_runIN (As := As) (rest := st) (host := host) ⟨C.1, C.2.1, C.2.2.1, C.2.2.2.1, hts⟩ hmet ⟨va_cnB n hts (q_good hm.1) hws rfl rfl (C.2.2.2.2.2.2.2.2.1.2.2.2.1 _ hl rfl) (hts _ hm.1.2.1) hm.1.2.2.1 hroom, hm.2.2.1, hts _ hm.2.1⟩ hPS rfl hn hl2.1 rfl (lv_room hcat) hd ⟨by omega, by omega⟩) hS fin
/-- calls that make nothing, answers known -/
theorem q_callVI {idx i n ci : Nat} {fl : List Nat} {z : Int} {w0 : q_W} (hd : decode M.2.1 pc = .ok (.invokevirtual idx, 3)) (hp : pc + 3 = pc') (hl : q_Lk M.1.cls idx M') (hm : q_MV M' n) (hK : w.1[i]? = some (.inl (ci, fl))) (hci : (vwCl[ci]?).map (fun q => q.1) = some M'.1.cls)
    (g : q_Sp Γ M' d' 0 0 (q_r Γ i :: As) w (q_ev (some (q_i z)) w0)) (hst : stk = As.reverse ++ q_r Γ i :: st) (hn : As.length = n) (hls : (lg_sl (q_r Γ i :: As)).length ≤ M'.2.2.1) (hdd : d' + 1 ≤ d) (hcat : (st.map fun v => v.category).sum ≤ 8)
    (k : q_Go Γ M d bc bs pc' L (q_i z :: st) w0 Q) : q_Go Γ M d bc bs pc L stk w Q :=
  q_callA (bc2 := bc) (bs2 := bs) hd hp hl hm hK hci g hst hn hls hdd hcat (Nat.zero_add _).symm (Nat.zero_add _).symm (fun v w' h => by obtain ⟨rfl, rfl⟩ := h; exact k)
theorem q_callVV {idx i n ci : Nat} {fl : List Nat} {w0 : q_W} (hd : decode M.2.1 pc = .ok (.invokevirtual idx, 3)) (hp : pc + 3 = pc') (hl : q_Lk M.1.cls idx M') (hm : q_MV M' n) (hK : w.1[i]? = some (.inl (ci, fl))) (hci : (vwCl[ci]?).map (fun q => q.1) = some M'.1.cls)
    (g : q_Sp Γ M' d' 0 0 (q_r Γ i :: As) w (q_ev none w0)) (hst : stk = As.reverse ++ q_r Γ i :: st) (hn : As.length = n) (hls : (lg_sl (q_r Γ i :: As)).length ≤ M'.2.2.1) (hdd : d' + 1 ≤ d) (hcat : (st.map fun v => v.category).sum ≤ 8)
    (k : q_Go Γ M d bc bs pc' L st w0 Q) : q_Go Γ M d bc bs pc L stk w Q :=
  q_callA (bc2 := bc) (bs2 := bs) hd hp hl hm hK hci g hst hn hls hdd hcat (Nat.zero_add _).symm (Nat.zero_add _).symm (fun v w' h => by obtain ⟨rfl, rfl⟩ := h; exact k)
theorem q_callVQ {idx i n ci : Nat} {fl : List Nat} (hd : decode M.2.1 pc = .ok (.invokevirtual idx, 3)) (hp : pc + 3 = pc') (hl : q_Lk M.1.cls idx M') (hm : q_MV M' n) (hK : w.1[i]? = some (.inl (ci, fl))) (hci : (vwCl[ci]?).map (fun q => q.1) = some M'.1.cls)
    (g : q_Sp Γ M' d' 0 0 (q_r Γ i :: As) w Q') (hst : stk = As.reverse ++ q_r Γ i :: st) (hn : As.length = n) (hls : (lg_sl (q_r Γ i :: As)).length ≤ M'.2.2.1) (hdd : d' + 1 ≤ d) (hcat : (st.map fun v => v.category).sum ≤ 8)
    (k : ∀ v w', Q' v w' → q_Go Γ M d bc bs pc' L (v.toList ++ st) w' Q) : q_Go Γ M d bc bs pc L stk w Q :=
  q_callA (bc2 := bc) (bs2 := bs) hd hp hl hm hK hci g hst hn hls hdd hcat (Nat.zero_add _).symm (Nat.zero_add _).symm k
theorem q_callSI {idx n : Nat} {z : Int} {w0 : q_W} (hd : decode M.2.1 pc = .ok (.invokestatic idx, 3)) (hp : pc + 3 = pc') (hl : q_Lk M.1.cls idx M') (hm : q_MS M' n)
    (g : q_Sp Γ M' d' 0 0 As w (q_ev (some (q_i z)) w0)) (hst : stk = As.reverse ++ st) (hn : As.length = n) (hls : (lg_sl As).length ≤ M'.2.2.1) (hdd : d' + 1 ≤ d) (hcat : (st.map fun v => v.category).sum ≤ 8)
    (k : q_Go Γ M d bc bs pc' L (q_i z :: st) w0 Q) : q_Go Γ M d bc bs pc L stk w Q :=
  q_callB (bc2 := bc) (bs2 := bs) hd hp hl hm g hst hn hls hdd hcat (Nat.zero_add _).symm (Nat.zero_add _).symm (fun v w' h => by obtain ⟨rfl, rfl⟩ := h; exact k)
theorem q_callSV {idx n : Nat} {w0 : q_W} (hd : decode M.2.1 pc = .ok (.invokestatic idx, 3)) (hp : pc + 3 = pc') (hl : q_Lk M.1.cls idx M') (hm : q_MS M' n)
    (g : q_Sp Γ M' d' 0 0 As w (q_ev none w0)) (hst : stk = As.reverse ++ st) (hn : As.length = n) (hls : (lg_sl As).length ≤ M'.2.2.1) (hdd : d' + 1 ≤ d) (hcat : (st.map fun v => v.category).sum ≤ 8)
    (k : q_Go Γ M d bc bs pc' L st w0 Q) : q_Go Γ M d bc bs pc L stk w Q :=
  q_callB (bc2 := bc) (bs2 := bs) hd hp hl hm g hst hn hls hdd hcat (Nat.zero_add _).symm (Nat.zero_add _).symm (fun v w' h => by obtain ⟨rfl, rfl⟩ := h; exact k)
theorem q_callSQ {idx n : Nat} (hd : decode M.2.1 pc = .ok (.invokestatic idx, 3)) (hp : pc + 3 = pc') (hl : q_Lk M.1.cls idx M') (hm : q_MS M' n)
    (g : q_Sp Γ M' d' 0 0 As w Q') (hst : stk = As.reverse ++ st) (hn : As.length = n) (hls : (lg_sl As).length ≤ M'.2.2.1) (hdd : d' + 1 ≤ d) (hcat : (st.map fun v => v.category).sum ≤ 8)
    (k : ∀ v w', Q' v w' → q_Go Γ M d bc bs pc' L (v.toList ++ st) w' Q) : q_Go Γ M d bc bs pc L stk w Q :=
  q_callB (bc2 := bc) (bs2 := bs) hd hp hl hm g hst hn hls hdd hcat (Nat.zero_add _).symm (Nat.zero_add _).symm k
end HI
