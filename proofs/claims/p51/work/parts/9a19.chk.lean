/-! the static check of the tables, on -/
theorem ck_59 : (List.range' 59 5).all chkM = true := by decide +kernel
theorem ck_64 : (List.range' 64 9).all chkM = true := by decide +kernel
theorem ck_73 : (List.range' 73 6).all chkM = true := by decide +kernel
theorem ck_79 : (List.range' 79 7).all chkM = true := by decide +kernel
theorem ck_86 : (List.range' 86 12).all chkM = true := by decide +kernel
theorem ck_98 : (List.range' 98 7).all chkM = true := by decide +kernel
theorem ck_105 : (List.range' 105 39).all chkM = true := by decide +kernel
theorem ck_144 : (List.range' 144 14).all chkM = true := by decide +kernel
theorem ck_158 : (List.range' 158 9).all chkM = true := by decide +kernel
