/-! the runs themselves, made by the kernel -/
set_option maxRecDepth 1000000 in
theorem zr_short : zzRun ([], 6) zzLim zzE0 200000 15 cdLaw cdLaw zzL0 [] zzm0 [] = true := by decide +kernel
