/-! the static check of the tables, on -/
theorem ck_167 : (List.range' 167 4).all chkM = true := by decide +kernel
theorem ck_171 : (List.range' 171 7).all chkM = true := by decide +kernel
theorem ck_178 : (List.range' 178 9).all chkM = true := by decide +kernel
theorem ck_187 : (List.range' 187 14).all chkM = true := by decide +kernel
theorem ck_201 : (List.range' 201 11).all chkM = true := by decide +kernel
theorem ck_212 : (List.range' 212 40).all chkM = true := by decide +kernel
theorem ck_252 : (List.range' 252 40).all chkM = true := by decide +kernel
theorem ck_292 : (List.range' 292 40).all chkM = true := by decide +kernel
theorem ck_332 : (List.range' 332 12).all chkM = true := by decide +kernel
