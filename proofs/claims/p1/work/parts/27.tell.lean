/-! THE CALLS ON NEW OBJECTS, one by one, run by the kernel -/
set_option maxRecDepth 1000000 in
theorem zc_tell : aChk 200000 115 177 [(tI (-2147483648) (-1) :: ([.int 0] ++ tCut 1 []))] = true := by decide +kernel
