/-! speed: first -/
theorem ex_ck0 : xChkP 13 false (some .int) code psLaw (cdL_0.zip psL_0) (psL_0.tail ++ [270]) = true := by decide +kernel
