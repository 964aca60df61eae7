/-! ===== every block of every method is what the bytes decode to (0) ===== -/
set_option maxRecDepth 100000 in
theorem xck_c0 : (List.range' 0 8).all xckM = true := by decide +kernel
set_option maxRecDepth 100000 in
theorem xck_c1 : (List.range' 8 8).all xckM = true := by decide +kernel
set_option maxRecDepth 100000 in
theorem xck_c2 : (List.range' 16 8).all xckM = true := by decide +kernel
set_option maxRecDepth 100000 in
theorem xck_c3 : (List.range' 24 8).all xckM = true := by decide +kernel
set_option maxRecDepth 100000 in
theorem xck_c4 : (List.range' 32 8).all xckM = true := by decide +kernel
set_option maxRecDepth 100000 in
theorem xck_c5 : (List.range' 40 8).all xckM = true := by decide +kernel
set_option maxRecDepth 100000 in
theorem xck_c6 : (List.range' 48 8).all xckM = true := by decide +kernel
set_option maxRecDepth 100000 in
theorem xck_c7 : (List.range' 56 8).all xckM = true := by decide +kernel
