/-! THE CALLS ON NEW OBJECTS, one by one, run by the kernel -/
set_option maxRecDepth 1000000 in
theorem zc_feed : aChk 60000 113 156 [(tAny), (tAny), (tAny), (tAny), (tAny)] = true := by decide +kernel
set_option maxRecDepth 1000000 in
theorem zc_fault : aChk 60000 117 178 [(tI (-2147483648) (-1) :: ([.int 0, .int 1] ++ tCut 2 []))] = true := by decide +kernel
set_option maxRecDepth 1000000 in
theorem zc_hours : aChk 60000 118 180 [(tC [0]), (tAny)] = true := by decide +kernel
set_option maxRecDepth 1000000 in
theorem zc_changed : aChk 60000 126 222 [(tC [0])] = true := by decide +kernel
set_option maxRecDepth 1000000 in
theorem zc_count : aChk 60000 148 252 [(tI (-2147483648) (-1) :: ([.int 0, .int 1, .int 2, .int 3, .int 4, .int 5, .int 6] ++ tCut 7 []))] = true := by decide +kernel
