/-! CALLS WITHOUT ARGUMENTS ON FRESH OBJECTS, by running them -/
set_option maxRecDepth 100000 in
theorem ck_2 : chk 30000 98 155 [] ML0 = true := by decide +kernel
set_option maxRecDepth 100000 in
theorem ck_7 : chk 30000 100 169 [] ML0 = true := by decide +kernel
set_option maxRecDepth 100000 in
theorem ck_9 : chk 30000 103 173 [] ML0 = true := by decide +kernel
set_option maxRecDepth 100000 in
theorem ck_12 : chk 30000 106 183 [] ML0 = true := by decide +kernel
set_option maxRecDepth 100000 in
theorem ck_18 : chk 30000 112 190 [] ML0 = true := by decide +kernel
set_option maxRecDepth 100000 in
theorem ck_23 : chk 30000 116 207 [] ML0 = true := by decide +kernel
set_option maxRecDepth 100000 in
theorem ck_29_0 : chk 30000 125 220 [aI 0] ML0 = true := by decide +kernel
set_option maxRecDepth 100000 in
theorem ck_29_1 : chk 30000 125 220 [aI 1] ML0 = true := by decide +kernel
set_option maxRecDepth 100000 in
theorem ck_30_0 : chk 30000 126 221 [aI 0] ML0 = true := by decide +kernel
set_option maxRecDepth 100000 in
theorem ck_30_1 : chk 30000 126 221 [aI 1] ML0 = true := by decide +kernel
