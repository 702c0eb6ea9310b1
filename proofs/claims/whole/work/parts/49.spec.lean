/-! the one text constant: KINDS, "twabm" -/
theorem wJ0_9 : Cond.fieldLink RJ0 9 "java/lang/String" "value" "[B" ∈ q_words := q_w 1229 (by decide +kernel) rfl
theorem wJ0_15 : Cond.fieldLink RJ0 15 "java/lang/String" "coder" "B" ∈ q_words := q_w 1228 (by decide +kernel) rfl
theorem wJ0_38 : Cond.fieldLink RJ0 38 "java/lang/String" "COMPACT_STRINGS" "Z" ∈ q_words := q_w 727 (by decide +kernel) rfl
theorem wJ1_38 : Cond.methodLink RJ1 38 Lib.Math.min.name ∈ q_words := q_w 744 (by decide +kernel) rfl
theorem wJ1_92 : Cond.methodLink RJ1 92 Lib.Math.max.name ∈ q_words := q_w 743 (by decide +kernel) rfl
def s_kd (z : Int) : Int := if z = 0 then 116 else if z = 1 then 119 else if z = 2 then 97 else if z = 3 then 98 else 109
def s_ixc (c : Int) : Int := if c = 116 then 0 else if c = 119 then 1 else if c = 97 then 2 else if c = 98 then 3 else if c = 109 then 4 else -1
set_option maxRecDepth 200000 in
theorem s_i2b {c : Int} (h0 : 0 ≤ c) (h1 : c ≤ 126) : (Int32.ofInt c).toInt8.toInt32 = Int32.ofInt c := by
  have e : ∀ n : Fin 127, (Int32.ofInt ((n.val : Nat) : Int)).toInt8.toInt32 = Int32.ofInt ((n.val : Nat) : Int) := by decide
  obtain ⟨n, rfl⟩ : ∃ n : Nat, c = n := ⟨c.toNat, by omega⟩
  exact e ⟨n, by omega⟩
section SR
variable {Γ : q_G} {M M' : q_M} {d d' bc bs pc pc' : Nat} {L : List (Nat × Value)} {st stk As : List Value} {w : q_W} {Q : Option Value → q_W → Prop}
theorem q_ldcs (hd : decode M.2.1 pc = .ok (.ldc 46, 2)) (hp : pc + 2 = pc') (hM : M.1.cls = "ShadowRows$OrderReader") (kk : q_Go Γ M d bc bs pc' L (.ref (q_ad Γ 4) :: st) w Q) : q_Go Γ M d bc bs pc L st w Q := by
  subst hp
  intro p e R s m args below meth c H locs cells slots Z ls CC hc1 hs1 hW hS hl hr
  exact va_ldcS CC.1 CC.2.1 (own := M.1.cls) CC.2.2.2.1 (by rw [hM]; exact CC.2.2.2.2.2.2.2.2.1.2.2.2.2.2.1) hd (kk p e R s m args below meth c H locs cells slots Z ls CC hc1 hs1 hW hS hl hr)
theorem q_scod {idx : Nat} (hd : decode M.2.1 pc = .ok (.getfield idx, 3)) (hp : pc + 3 = pc') (hlk : Cond.fieldLink M.1.cls idx "java/lang/String" "coder" "B" ∈ q_words) (kk : q_Go Γ M d bc bs pc' L (q_i 0 :: st) w Q) : q_Go Γ M d bc bs pc L (.ref (q_ad Γ 4) :: st) w Q := by
  subst hp
  intro p e R s m args below meth c H locs cells slots Z ls CC hc1 hs1 hW hS hl hr
  exact vk_getf CC.1 CC.2.1 (CC.2.2.2.2.2.2.2.2.1.2.2.2.2.2.2.1.1 0 (by decide)).2.1 hS CC.2.2.2.1 (CC.2.2.2.2.2.2.2.1 _ hlk) (fun _ h => h) hd (kk p e R s m args below meth c H locs cells slots Z ls CC hc1 hs1 hW hS hl hr)
theorem q_sval {idx : Nat} (hd : decode M.2.1 pc = .ok (.getfield idx, 3)) (hp : pc + 3 = pc') (hlk : Cond.fieldLink M.1.cls idx "java/lang/String" "value" "[B" ∈ q_words) (kk : q_Go Γ M d bc bs pc' L (.ref (q_ad Γ 5) :: st) w Q) : q_Go Γ M d bc bs pc L (.ref (q_ad Γ 4) :: st) w Q := by
  subst hp
  intro p e R s m args below meth c H locs cells slots Z ls CC hc1 hs1 hW hS hl hr
  exact vk_getf CC.1 CC.2.1 (CC.2.2.2.2.2.2.2.2.1.2.2.2.2.2.2.1.1 0 (by decide)).2.2.1 hS CC.2.2.2.1 (CC.2.2.2.2.2.2.2.1 _ hlk) (fun _ h => h) hd (kk p e R s m args below meth c H locs cells slots Z ls CC hc1 hs1 hW hS hl hr)
theorem q_scs {idx : Nat} (hd : decode M.2.1 pc = .ok (.getstatic idx, 3)) (hp : pc + 3 = pc') (hlk : Cond.fieldLink M.1.cls idx "java/lang/String" "COMPACT_STRINGS" "Z" ∈ q_words) (kk : q_Go Γ M d bc bs pc' L (q_i 1 :: st) w Q) : q_Go Γ M d bc bs pc L st w Q := by
  subst hp
  intro p e R s m args below meth c H locs cells slots Z ls CC hc1 hs1 hW hS hl hr
  exact va_gets CC.1 CC.2.1 CC.2.2.2.2.2.2.2.2.1.2.2.2.2.2.2.2 hS CC.2.2.2.1 (CC.2.2.2.2.2.2.2.1 _ hlk) (fun _ h => h) hd (kk p e R s m args below meth c H locs cells slots Z ls CC hc1 hs1 hW hS hl hr)
theorem q_slen (hd : decode M.2.1 pc = .ok (.arraylength, 1)) (hp : pc + 1 = pc') (kk : q_Go Γ M d bc bs pc' L (q_i 5 :: st) w Q) : q_Go Γ M d bc bs pc L (.ref (q_ad Γ 5) :: st) w Q := by
  subst hp
  intro p e R s m args below meth c H locs cells slots Z ls CC hc1 hs1 hW hS hl hr
  exact va_tlen CC.1 CC.2.1 (CC.2.2.2.2.2.2.2.2.1.2.2.2.2.2.2.1.1 0 (by decide)).2.2.2 hS (v := Int32.ofInt 5) rfl hd (kk p e R s m args below meth c H locs cells slots Z ls CC hc1 hs1 hW hS hl hr)
theorem q_sbald {z : Int} (hd : decode M.2.1 pc = .ok (.baload, 1)) (hp : pc + 1 = pc') (h0 : 0 ≤ z) (h1 : z < 5) (kk : ∀ y : Int, y = s_kd z → q_Go Γ M d bc bs pc' L (q_i y :: st) w Q) : q_Go Γ M d bc bs pc L (q_i z :: .ref (q_ad Γ 5) :: st) w Q := by
  subst hp
  intro p e R s m args below meth c H locs cells slots Z ls CC hc1 hs1 hW hS hl hr
  refine va_tb CC.1 CC.2.1 (CC.2.2.2.2.2.2.2.2.1.2.2.2.2.2.2.1.1 0 (by decide)).2.2.2 hS (q_in h0 (by show z < ((5 : Nat) : Int); omega) (by decide)) (v := q_i (s_kd z)) ?_ hd (kk _ rfl p e R s m args below meth c H locs cells slots Z ls CC hc1 hs1 hW hS hl hr)
  rw [q_cl h0 (by omega)]
  rcases (show z = 0 ∨ z = 1 ∨ z = 2 ∨ z = 3 ∨ z = 4 by omega) with rfl | rfl | rfl | rfl | rfl <;> rfl
/-- a method of the text -/
theorem q_callTI {idx n : Nat} {z : Int} {w0 : q_W} (hd : decode M.2.1 pc = .ok (.invokevirtual idx, 3)) (hp : pc + 3 = pc') (hl : Cond.methodLink M.1.cls idx M'.1 ∈ q_words) (hm : q_MV M' n) (hM : M'.1.cls = "java/lang/String")
    (g : q_Sp Γ M' d' 0 0 (.ref (q_ad Γ 4) :: As) w (q_ev (some (q_i z)) w0)) (hst : stk = As.reverse ++ .ref (q_ad Γ 4) :: st) (hn : As.length = n) (hls : (lg_sl (.ref (q_ad Γ 4) :: As)).length ≤ M'.2.2.1) (hdd : d' + 1 ≤ d) (hcat : (st.map fun v => v.category).sum ≤ 8)
    (k : q_Go Γ M d bc bs pc' L (q_i z :: st) w0 Q) : q_Go Γ M d bc bs pc L stk w Q := by
  subst hp; subst hst
  intro p e R s m args below meth c H locs cells slots Z ls C hc hs hW hS hl2 hr
  have hts := C.2.2.2.2.2.2.2.1
  have hmet := q_met hm.1.2.2.2.1 hls g
  have hroom := q_room (bc' := 0) (bs' := 0) hdd C.2.2.2.2.2.2.2.2.2.2 hm.1
  have hPV : PreV s H M'.1.cls (q_ad Γ 4) (q_Pc Γ (.ref (q_ad Γ 4) :: As) w) As := ⟨q_blind Γ _ w, by rw [hM]; exact vk_recv C.2.2.2.2.2.2.2.2.1.2.2.2.2.2.2.1 (i := 0) (by decide) hS, q_Pc_at C hW hS⟩
  have fin : ∀ (v : Option Value) (w' : q_W) (H1 : Heap) (locs1 : List Loc), q_ev (some (q_i z)) w0 v w' → q_Wd Γ w' H1 → va_S (q_A Γ) s.heap H1 locs1 → W p (q_l Γ) e R s m args below meth c H1 locs1 (cells + 0) (slots + 0) Z (F0 m (pc + 3) ls (v.toList ++ st)) :=
    fun v w' H1 locs1 hQ hW1 hS1 => by
      obtain ⟨rfl, rfl⟩ := hQ
      exact k p e R s m args below meth c H1 locs1 _ _ Z ls C (by omega) (by omega) hW1 hS1 hl2 (fun v2 pc2 w2 H2 locs2 cells2 slots2 ls2 a1 a2 => hr v2 pc2 w2 H2 locs2 cells2 slots2 ls2 (by omega) (by omega))
  exact q_goes (va_runV (As := As) (rest := st) ⟨C.1, C.2.1, C.2.2.1, C.2.2.2.1, hts⟩ hmet ⟨callB_of n hts (q_good hm.1) rfl rfl rfl (hts _ hm.1.2.1) (hts _ hl) hm.1.2.2.1 hroom, hts _ hm.2.1, hts _ hm.2.2⟩ hPV rfl hn hl2.1 rfl (lv_room hcat) hd ⟨by omega, by omega⟩) hS fin
end SR
theorem tX5_52 : Cond.methodLink RX5 52 mJ0_indexOf_0f7a4.1 ∈ q_words := q_w 715 (by decide +kernel) rfl
theorem tJ0_633 : Cond.methodLink RJ0 633 mJ0_indexOf_7cf53.1 ∈ q_words := q_w 719 (by decide +kernel) rfl
theorem tJ0_492 : Cond.methodLink RJ0 492 mJ0_isLatin1_aae02.1 ∈ q_words := q_w 723 (by decide +kernel) rfl
theorem tJ0_505 : Cond.methodLink RJ0 505 mJ0_length_8abf5.1 ∈ q_words := q_w 729 (by decide +kernel) rfl
theorem tJ0_335 : Cond.methodLink RJ0 335 mJ0_coder_7d493.1 ∈ q_words := q_w 733 (by decide +kernel) rfl
/-! the class' reader: the pad as signs P; what it changes -/
def s_pdC (S : q_S) (P : Int → Int) : Prop := (0 ≤ S 25 1 ∧ S 25 1 ≤ 80) ∧ (∀ z, 0 ≤ z → z < S 25 1 → S 26 z = P z ∧ 0 ≤ P z) ∧ (∀ z, S 25 1 ≤ z → P z = -1) ∧ (∀ z, -1 ≤ P z ∧ P z ≤ 126)
theorem s_pdC_u {S : q_S} {P : Int → Int} {c : Nat} {k v : Int} (h1 : 25 ≠ c) (h2 : 26 ≠ c) (h : s_pdC S P) : s_pdC (q_up S c k v) P := by
  unfold s_pdC
  rw [q_up_ne h1, q_up_ne h2]
  exact h
theorem s_pdC_lt {S : q_S} {P : Int → Int} (h : s_pdC S P) {z : Int} (h1 : 0 ≤ P z) : z < S 25 1 := by
  by_cases q : z < S 25 1
  · exact q
  · have := h.2.2.1 z (by omega); omega
def s_offR (S S2 : q_S) : Prop := ∀ a, a ≠ 27 → a ≠ 28 → S2 a = S a
theorem s_offR_r {S : q_S} : s_offR S S := fun _ _ _ => rfl
theorem s_offR_u {S S2 : q_S} {c : Nat} {z v : Int} (h : s_offR S S2) (h0 : c = 27 ∨ c = 28) : s_offR S (q_up S2 c z v) := fun a h1 h2 => (q_up_ne (by omega)).trans (h a h1 h2)
theorem s_offR_t {S S2 S3 : q_S} (h : s_offR S S2) (h2 : s_offR S2 S3) : s_offR S S3 := fun a h3 h4 => (h2 a h3 h4).trans (h a h3 h4)
theorem s_pdC_o {S S2 : q_S} {P : Int → Int} (h : s_offR S S2) (h2 : s_pdC S P) : s_pdC S2 P := by
  unfold s_pdC
  rw [h 25 (by decide) (by decide), h 26 (by decide) (by decide)]
  exact h2
def s_dh (P : Int → Int) (z : Int) : Int := if 48 ≤ P z ∧ P z ≤ 57 then P z - 48 else -6
set_option maxRecDepth 200000 in
theorem s_nar_c {c : Int} (h0 : 0 ≤ c) (h1 : c ≤ 126) : narrow .char (q_i c) = q_i c ∧ fits .char (q_i c) = true := by
  have e : ∀ n : Fin 127, narrow .char (q_i ((n.val : Nat) : Int)) = q_i ((n.val : Nat) : Int) ∧ fits .char (q_i ((n.val : Nat) : Int)) = true := by decide
  obtain ⟨n, rfl⟩ : ∃ n : Nat, c = n := ⟨c.toNat, by omega⟩
  exact e ⟨n, by omega⟩
theorem s_od_t {P : Int → Int} {z : Int} (h : 116 = P z) : s_odAt P z = s_eqAt P 5 4 (z + 1) ∧ (s_odOk P z ↔ s_eqOk P 5 4 (z + 1)) := by
  refine ⟨if_pos h.symm, fun q => ?_, fun q => Or.inl ⟨h.symm, q⟩⟩
  rcases q with q | q | q | q | q
  · exact q.2
  · omega
  · omega
  · omega
  · omega
theorem s_od_w {P : Int → Int} {z : Int} (h : 119 = P z) : s_odAt P z = s_eqAt P 9 9 (z + 1) ∧ (s_odOk P z ↔ s_eqOk P 9 9 (z + 1)) := by
  refine ⟨(if_neg (by omega)).trans (if_pos h.symm), fun q => ?_, fun q => Or.inr (Or.inl ⟨h.symm, q⟩)⟩
  rcases q with q | q | q | q | q
  · omega
  · exact q.2
  · omega
  · omega
  · omega
theorem s_od_a {P : Int → Int} {z : Int} (h : 97 = P z) : s_odAt P z = (if ¬ (48 ≤ P (z + 1) ∧ P (z + 1) ≤ 48 + 5) then z + 1 else s_tmAt P (z + 1 + 1)) ∧ (s_odOk P z ↔ (48 ≤ P (z + 1) ∧ P (z + 1) ≤ 48 + 5) ∧ s_tmOk P (z + 1 + 1)) := by
  refine ⟨(if_neg (by omega)).trans ((if_neg (by omega)).trans (if_pos h.symm)), fun q => ?_, fun q => Or.inr (Or.inr (Or.inl ⟨h.symm, q⟩))⟩
  rcases q with q | q | q | q | q
  · omega
  · omega
  · exact q.2
  · omega
  · omega
theorem s_od_b {P : Int → Int} {z : Int} (h : 98 = P z) : s_odAt P z = (if ¬ (48 ≤ P (z + 1) ∧ P (z + 1) ≤ 48 + 5) then z + 1 else if P (z + 1 + 1) ≠ 62 then z + 1 + 1 else if ¬ (48 ≤ P (z + 1 + 1 + 1) ∧ P (z + 1 + 1 + 1) ≤ 48 + 5) then z + 1 + 1 + 1 else s_tmAt P (z + 1 + 1 + 1 + 1)) ∧
    (s_odOk P z ↔ (48 ≤ P (z + 1) ∧ P (z + 1) ≤ 48 + 5) ∧ P (z + 1 + 1) = 62 ∧ (48 ≤ P (z + 1 + 1 + 1) ∧ P (z + 1 + 1 + 1) ≤ 48 + 5) ∧ s_tmOk P (z + 1 + 1 + 1 + 1)) := by
  refine ⟨(if_neg (by omega)).trans ((if_neg (by omega)).trans ((if_neg (by omega)).trans (if_pos h.symm))), fun q => ?_, fun q => Or.inr (Or.inr (Or.inr (Or.inl ⟨h.symm, q⟩)))⟩
  rcases q with q | q | q | q | q
  · omega
  · omega
  · omega
  · exact q.2
  · omega
theorem s_od_m {P : Int → Int} {z : Int} (h : P z = 109) : s_odAt P z = z + 1 ∧ s_odOk P z := by
  refine ⟨(if_neg (by omega)).trans ((if_neg (by omega)).trans ((if_neg (by omega)).trans ((if_neg (by omega)).trans (if_pos h)))), Or.inr (Or.inr (Or.inr (Or.inr h)))⟩
theorem s_od_x {P : Int → Int} {z : Int} (h : P z ≠ 116 ∧ P z ≠ 119 ∧ P z ≠ 97 ∧ P z ≠ 98 ∧ P z ≠ 109) : s_odAt P z = z ∧ ¬ s_odOk P z := by
  refine ⟨(if_neg (by omega)).trans ((if_neg (by omega)).trans ((if_neg (by omega)).trans ((if_neg (by omega)).trans (if_neg (by omega))))), fun q => ?_⟩
  rcases q with q | q | q | q | q <;> omega
theorem s_nmL_N {P : Int → Int} {N : Int} (hN : ∀ y, N ≤ y → P y = -1) (n : Nat) : ∀ x : Int × Int, x.2 ≤ N → (s_nmL P n x).2 ≤ N := by
  induction n with
  | zero => exact fun x h => h
  | succ n ih =>
    intro x h
    show (if 0 < x.1 ∧ 48 ≤ P x.2 ∧ P x.2 ≤ 57 then s_nmL P n (10 * x.1 + (P x.2 - 48), x.2 + 1) else x).2 ≤ N
    split
    · rename_i g
      refine ih _ ?_
      show x.2 + 1 ≤ N
      by_cases q : N ≤ x.2
      · have := hN x.2 q; omega
      · omega
    · exact h
theorem s_num_N {P : Int → Int} {N z : Int} (hN : ∀ y, N ≤ y → P y = -1) (h : 0 ≤ P z) : (s_num P z).2 ≤ N := by
  refine s_nmL_N hN 2 _ ?_
  show z + 1 ≤ N
  by_cases q : N ≤ z
  · have := hN z q; omega
  · omega
theorem s_tmAt_N {P : Int → Int} {N z : Int} (hN : ∀ y, N ≤ y → P y = -1) (h : s_tmOk P z) : s_tmAt P z ≤ N := by
  obtain ⟨h1, h2, h3, h4, h5, h6⟩ := h
  unfold s_tmAt
  rw [if_neg (by omega), if_neg (by omega), if_neg (by omega), if_neg (by omega), if_neg (by omega), if_neg (by omega)]
  exact s_num_N hN (by omega)
theorem s_odAt_N {P : Int → Int} {N z : Int} (hN : ∀ y, N ≤ y → P y = -1) (h : s_odOk P z) : s_odAt P z ≤ N := by
  have hl : ∀ y, 0 ≤ P y → y + 1 ≤ N := fun y q => by
    by_cases g : N ≤ y
    · have := hN y g; omega
    · omega
  rcases h with ⟨g, q⟩ | ⟨g, q⟩ | ⟨g, q⟩ | ⟨g, q⟩ | g
  · rw [(s_od_t g.symm).1]
    unfold s_eqOk at q
    unfold s_eqAt
    have := hl (z + 1 + 1 + 1) (by omega)
    rw [if_neg (by omega), if_neg (by omega), if_neg (by omega)]
    omega
  · rw [(s_od_w g.symm).1]
    unfold s_eqOk at q
    unfold s_eqAt
    have := hl (z + 1 + 1 + 1) (by omega)
    rw [if_neg (by omega), if_neg (by omega), if_neg (by omega)]
    omega
  · rw [(s_od_a g.symm).1, if_neg (by omega)]
    exact s_tmAt_N hN q.2
  · rw [(s_od_b g.symm).1, if_neg (by omega), if_neg (by omega), if_neg (by omega)]
    exact s_tmAt_N hN q.2.2.2
  · rw [(s_od_m g).1]
    exact hl z (by omega)
