/-! the static check of the law, 2 -/
theorem cl_8 : chkL 8 = true := by decide +kernel
theorem cl_9 : chkL 9 = true := by decide +kernel
theorem cl_10 : chkL 10 = true := by decide +kernel
theorem cl_11 : chkL 11 = true := by decide +kernel
theorem cl_12 : chkL 12 = true := by decide +kernel
theorem cl_13 : chkL 13 = true := by decide +kernel
