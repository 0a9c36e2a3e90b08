/-! the static check of the law, 5 -/
theorem cl_25 : chkL 25 = true := by decide +kernel
theorem cl_26 : chkL 26 = true := by decide +kernel
theorem cl_27 : chkL 27 = true := by decide +kernel
theorem cl_28 : chkL 28 = true := by decide +kernel
theorem cl_29 : chkL 29 = true := by decide +kernel
