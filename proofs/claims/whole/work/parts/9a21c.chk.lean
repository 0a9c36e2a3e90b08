/-! the static check of the law, 3 -/
theorem cl_14 : chkL 14 = true := by decide +kernel
theorem cl_15 : chkL 15 = true := by decide +kernel
theorem cl_16 : chkL 16 = true := by decide +kernel
theorem cl_17 : chkL 17 = true := by decide +kernel
theorem cl_18 : chkL 18 = true := by decide +kernel
theorem cl_19 : chkL 19 = true := by decide +kernel
