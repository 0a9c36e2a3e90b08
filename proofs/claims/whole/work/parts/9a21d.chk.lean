/-! the static check of the law, 4 -/
theorem cl_20 : chkL 20 = true := by decide +kernel
theorem cl_21 : chkL 21 = true := by decide +kernel
theorem cl_22 : chkL 22 = true := by decide +kernel
theorem cl_23 : chkL 23 = true := by decide +kernel
theorem cl_24 : chkL 24 = true := by decide +kernel
