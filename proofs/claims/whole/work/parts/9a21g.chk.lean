/-! the static check of the law, 7 -/
theorem cl_34 : chkL 34 = true := by decide +kernel
theorem cl_35 : chkL 35 = true := by decide +kernel
theorem cl_36 : chkL 36 = true := by decide +kernel
theorem cl_37 : chkL 37 = true := by decide +kernel
