/-! speed: last -/
theorem ex_ck40 : xChkP 13 false (some .int) code psLaw (cdL_40.zip psL_40) (psL_40.tail ++ [2323]) = true := by decide +kernel
