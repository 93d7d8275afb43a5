theorem fj_x1 : lw_tbl[68]? = some (.code yX6_init cX6_init 1 none) := by rfl
theorem fj_x2 : lw_tbl[495]? = some (.code yX2_isQuiet cX2_isQuiet 3 (some .boolean)) := by rfl
theorem i_vc : Claimed_1_1 ∧ Claimed_1_2 := sorry
