theorem lwi_vX_0 : ∀ w ∈ vX_0, w ∈ lw_tbl := by decide +kernel
theorem lwi_vX_1 : ∀ w ∈ vX_1, w ∈ lw_tbl := by decide +kernel
theorem lwi_vX_2 : ∀ w ∈ vX_2, w ∈ lw_tbl := by decide +kernel
