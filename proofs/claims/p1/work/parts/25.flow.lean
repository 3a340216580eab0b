/-! THE CALLS ON NEW OBJECTS, one by one, run by the kernel -/
set_option maxRecDepth 1000000 in
theorem zc_flow : aChk 60000 137 219 [(tI (-2147483648) (-4) :: [.int (-3)] ++ tCut (-2) [0]), (tI (-2147483648) (-5) :: [.int (-4), .int (-3)] ++ tCut (-2) [0])] = true := by decide +kernel
