/-! THE CALLS ON NEW OBJECTS, one by one, run by the kernel -/
set_option maxRecDepth 1000000 in
theorem zc_feed : aChk 60000 113 156 [(tAny), (tAny), (tAny), (tAny), (tAny)] = true := by decide +kernel
set_option maxRecDepth 1000000 in
theorem zc_fault : aChk 60000 117 178 [(tI (-2147483648) (-1) :: ([.int 0, .int 1] ++ tCut 2 []))] = true := by decide +kernel
set_option maxRecDepth 1000000 in
theorem zc_hours : aChk 60000 118 180 [(tC [0]), (tAny)] = true := by decide +kernel
set_option maxRecDepth 1000000 in
theorem zc_thing : aChk 60000 120 209 [(tC [0, 40]), (tC [0, 1000]), (tC [0, 10])] = true := by decide +kernel
set_option maxRecDepth 1000000 in
theorem zc_inside : aChk 60000 121 210 [(tC [0, 40]), (tC [0, 1000]), (tC [0])] = true := by decide +kernel
set_option maxRecDepth 1000000 in
theorem zc_there : aChk 60000 122 212 [(tI (-2147483648) (-5) :: [.int (-4), .int (-3)] ++ tCut (-2) [0]), (tC [0, 1000]), (tC [0])] = true := by decide +kernel
set_option maxRecDepth 1000000 in
theorem zc_many : aChk 60000 123 214 [(tC [0, 1000]), (tI (-2147483648) (-1) :: ([.int 0, .int 1, .int 2, .int 3, .int 4, .int 5] ++ tCut 6 []))] = true := by decide +kernel
set_option maxRecDepth 1000000 in
theorem zc_trail : aChk 60000 124 216 [(tC [0, 40]), (tC [0]), (tI (-2147483648) (-1) :: ([.int 0, .int 1] ++ tCut 2 []))] = true := by decide +kernel
set_option maxRecDepth 1000000 in
theorem zc_known : aChk 60000 125 221 [(tI (-2147483648) (-1) :: ([.int 0] ++ tCut 1 [])), (tC [0, 40])] = true := by decide +kernel
set_option maxRecDepth 1000000 in
theorem zc_changed : aChk 60000 126 222 [(tC [0])] = true := by decide +kernel
set_option maxRecDepth 1000000 in
theorem zc_without : aChk 60000 127 224 [(tC [0]), (tAny)] = true := by decide +kernel
set_option maxRecDepth 1000000 in
theorem zc_refused : aChk 60000 128 226 [(tI (-2147483648) (-2) :: [.int (-1)] ++ tCut 0 [13])] = true := by decide +kernel
set_option maxRecDepth 1000000 in
theorem zc_blamed : aChk 60000 129 228 [(tC [0, 2])] = true := by decide +kernel
set_option maxRecDepth 1000000 in
theorem zc_twoBlamed : aChk 60000 130 229 [(tC [0, 3])] = true := by decide +kernel
set_option maxRecDepth 1000000 in
theorem zc_met : aChk 60000 131 238 [(tC [0, 40]), (tC [0, 1000]), (tC [0])] = true := by decide +kernel
set_option maxRecDepth 1000000 in
theorem zc_most : aChk 60000 133 241 [(tC [0, 40])] = true := by decide +kernel
set_option maxRecDepth 1000000 in
theorem zc_still : aChk 60000 134 243 [(tC [0, 40]), (tC [0, 1000])] = true := by decide +kernel
set_option maxRecDepth 1000000 in
theorem zc_components : aChk 60000 135 244 [(tC [0]), (tAny)] = true := by decide +kernel
set_option maxRecDepth 1000000 in
theorem zc_dwelt : aChk 60000 136 218 [(tC [0, 40]), (tI (-2147483648) (-4) :: [.int (-3)] ++ tCut (-2) [0])] = true := by decide +kernel
set_option maxRecDepth 1000000 in
theorem zc_cause : aChk 60000 138 231 [(tC [0])] = true := by decide +kernel
set_option maxRecDepth 1000000 in
theorem zc_needs : aChk 60000 139 232 [(tC [0]), (tAny)] = true := by decide +kernel
set_option maxRecDepth 1000000 in
theorem zc_ifAt : aChk 60000 140 234 [(tC [0]), (tAny), (tAny)] = true := by decide +kernel
set_option maxRecDepth 1000000 in
theorem zc_window : aChk 60000 141 235 [(tC [0]), (tAny)] = true := by decide +kernel
set_option maxRecDepth 1000000 in
theorem zc_lost : aChk 60000 142 247 [(tC [0, 1000]), (tC [0, 1000]), (tC [0])] = true := by decide +kernel
set_option maxRecDepth 1000000 in
theorem zc_ifSwapped : aChk 60000 143 248 [(tC [0]), (tAny), (tAny)] = true := by decide +kernel
set_option maxRecDepth 1000000 in
theorem zc_busy : aChk 60000 144 250 [(tI (-2147483648) (-5) :: [.int (-4), .int (-3)] ++ tCut (-2) [0]), (tI (-2147483648) (-1) :: ([.int 0, .int 1] ++ tCut 2 []))] = true := by decide +kernel
set_option maxRecDepth 1000000 in
theorem zc_travelled : aChk 60000 145 251 [(tC [0, 40])] = true := by decide +kernel
set_option maxRecDepth 1000000 in
theorem zc_clash : aChk 60000 146 245 [(tC [0, 40]), (tC [0]), (tC [0, 3])] = true := by decide +kernel
set_option maxRecDepth 1000000 in
theorem zc_soonest : aChk 60000 147 246 [(tC [0, 40]), (tC [0, 1000]), (tC [0])] = true := by decide +kernel
set_option maxRecDepth 1000000 in
theorem zc_count : aChk 60000 148 252 [(tI (-2147483648) (-1) :: ([.int 0, .int 1, .int 2, .int 3, .int 4, .int 5, .int 6] ++ tCut 7 []))] = true := by decide +kernel
