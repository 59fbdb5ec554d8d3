/-! ===== the reference's tables ===== -/
set_option maxRecDepth 100000 in
theorem mod_some : (f_Mod_init sg0).isSome = true := by decide +kernel
