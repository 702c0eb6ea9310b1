set_option maxRecDepth 100000 in
set_option maxHeartbeats 8000000 in
theorem iL_same_w : lw_tbl[432]? = some (Cond.code yL_same cL_same 15 (some .boolean)) := rfl
theorem iL_same : q_MS mL_same 7 := ⟨⟨q_w 432 iL_same_w rfl, q_w 13 (by decide +kernel) rfl, ⟨by decide +kernel, by decide +kernel, by decide +kernel⟩, by decide +kernel, by decide +kernel⟩, q_w 431 (by decide +kernel) rfl⟩
