/-! ===== every block of every method is what the bytes decode to (2) ===== -/
set_option maxRecDepth 100000 in
theorem xck_c16 : (List.range' 128 8).all xckM = true := by decide +kernel
set_option maxRecDepth 100000 in
theorem xck_c17 : (List.range' 136 8).all xckM = true := by decide +kernel
set_option maxRecDepth 100000 in
theorem xck_c18 : (List.range' 144 8).all xckM = true := by decide +kernel
set_option maxRecDepth 100000 in
theorem xck_c19 : (List.range' 152 8).all xckM = true := by decide +kernel
set_option maxRecDepth 100000 in
theorem xck_c20 : (List.range' 160 8).all xckM = true := by decide +kernel
set_option maxRecDepth 100000 in
theorem xck_c21 : (List.range' 168 8).all xckM = true := by decide +kernel
set_option maxRecDepth 100000 in
theorem xck_c22 : (List.range' 176 8).all xckM = true := by decide +kernel
set_option maxRecDepth 100000 in
theorem xck_c23 : (List.range' 184 4).all xckM = true := by decide +kernel
