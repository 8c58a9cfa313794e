theorem lwi_vX_3 : ∀ w ∈ vX_3, w ∈ lw_tbl := by decide +kernel
theorem lwi_vX_4 : ∀ w ∈ vX_4, w ∈ lw_tbl := by decide +kernel
theorem lwi_vX_5 : ∀ w ∈ vX_5, w ∈ lw_tbl := by decide +kernel
