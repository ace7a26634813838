/-! the runs themselves, made by the kernel -/
set_option maxRecDepth 1000000 in
theorem zr_3 : zzRun (List.replicate 7 zzTp, 7) zzLim (zzEg (zzOs.getD 3 [])) 200000 15 cdLaw cdLaw zzL0 [] zzm0 [] = true := by decide +kernel
