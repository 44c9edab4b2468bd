/-! ===== three great codes ===== -/
set_option maxRecDepth 100000 in
theorem q1005 : Cond.code yL_sinks cL_sinks 1 (some .boolean) ∈ lw_all := al_in (i := 1005) rfl (by decide +kernel)
set_option maxRecDepth 100000 in
theorem q1032 : Cond.code yL_cracks cL_cracks 1 (some .boolean) ∈ lw_all := al_in (i := 1032) rfl (by decide +kernel)
set_option maxRecDepth 100000 in
theorem q1062 : Cond.code yL_links cL_links 2 (some .boolean) ∈ lw_all := al_in (i := 1062) rfl (by decide +kernel)
