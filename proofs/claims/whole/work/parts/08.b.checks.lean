/-! ===== every block of every method is what the bytes decode to (1) ===== -/
set_option maxRecDepth 100000 in
theorem xck_c8 : (List.range' 64 8).all xckM = true := by decide +kernel
set_option maxRecDepth 100000 in
theorem xck_c9 : (List.range' 72 8).all xckM = true := by decide +kernel
set_option maxRecDepth 100000 in
theorem xck_c10 : (List.range' 80 8).all xckM = true := by decide +kernel
set_option maxRecDepth 100000 in
theorem xck_c11 : (List.range' 88 8).all xckM = true := by decide +kernel
set_option maxRecDepth 100000 in
theorem xck_c12 : (List.range' 96 8).all xckM = true := by decide +kernel
set_option maxRecDepth 100000 in
theorem xck_c13 : (List.range' 104 8).all xckM = true := by decide +kernel
set_option maxRecDepth 100000 in
theorem xck_c14 : (List.range' 112 8).all xckM = true := by decide +kernel
set_option maxRecDepth 100000 in
theorem xck_c15 : (List.range' 120 8).all xckM = true := by decide +kernel
