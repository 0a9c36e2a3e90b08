/-! the static check of the law, 6 -/
theorem cl_30 : chkL 30 = true := by decide +kernel
theorem cl_31 : chkL 31 = true := by decide +kernel
theorem cl_32 : chkL 32 = true := by decide +kernel
theorem cl_33 : chkL 33 = true := by decide +kernel
