/-! the law's words -/
theorem wsX20_lt : ∀ w ∈ wsX20, w ∈ lw_tbl := by decide +kernel
theorem wsX00_lt : ∀ w ∈ wsX00, w ∈ lw_tbl := by decide +kernel
theorem wsX30_lt : ∀ w ∈ wsX30, w ∈ lw_tbl := by decide +kernel
theorem wsX10_lt : ∀ w ∈ wsX10, w ∈ lw_tbl := by decide +kernel
