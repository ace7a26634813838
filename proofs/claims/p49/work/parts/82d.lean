/-! speed: mid -/
theorem ex_ck20 : xChkP 13 false (some .int) code psLaw (cdL_20.zip psL_20) (psL_20.tail ++ [1328]) = true := by decide +kernel
