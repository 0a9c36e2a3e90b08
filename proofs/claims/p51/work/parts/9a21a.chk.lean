/-! the static check of the law -/
theorem cl_0 : chkL 0 = true := by decide +kernel
theorem cl_1 : chkL 1 = true := by decide +kernel
theorem cl_2 : chkL 2 = true := by decide +kernel
theorem cl_3 : chkL 3 = true := by decide +kernel
theorem cl_4 : chkL 4 = true := by decide +kernel
theorem cl_5 : chkL 5 = true := by decide +kernel
theorem cl_6 : chkL 6 = true := by decide +kernel
theorem cl_7 : chkL 7 = true := by decide +kernel
theorem cl_8 : chkL 8 = true := by decide +kernel
theorem cl_9 : chkL 9 = true := by decide +kernel
theorem cl_h : chkL0 = true := by decide +kernel
