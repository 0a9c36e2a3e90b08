/-! the static check of the law, 8 -/
theorem cl_38 : chkL 38 = true := by decide +kernel
theorem cl_39 : chkL 39 = true := by decide +kernel
theorem cl_40 : chkL 40 = true := by decide +kernel
theorem cl_h : chkL0 = true := by decide +kernel
