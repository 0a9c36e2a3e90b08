/-! the static check of the tables -/
noncomputable def chkM (i : Nat) : Bool := match mtb[i]?, cdt_a[i]? with
  | some q, some es => okM q && okH q && es.all (fun x => okE q x.1 x.2)
  | _, _ => false
noncomputable def chkL (a : Nat) : Bool := match mtb[344]?, cdt_a[344]? with
  | some q, some es => ((es.drop (a * 40)).take 40).all (fun x => okE q x.1 x.2)
  | _, _ => false
noncomputable def chkL0 : Bool := match mtb[344]?, cdt_a[344]? with
  | some q, some es => okH q && decide (es.length ≤ 41 * 40)
  | _, _ => false
theorem ck_0 : (List.range' 0 4).all chkM = true := by decide +kernel
theorem ck_4 : (List.range' 4 9).all chkM = true := by decide +kernel
theorem ck_13 : (List.range' 13 6).all chkM = true := by decide +kernel
theorem ck_19 : (List.range' 19 7).all chkM = true := by decide +kernel
theorem ck_26 : (List.range' 26 5).all chkM = true := by decide +kernel
theorem ck_31 : (List.range' 31 1).all chkM = true := by decide +kernel
theorem ck_32 : (List.range' 32 2).all chkM = true := by decide +kernel
theorem ck_34 : (List.range' 34 4).all chkM = true := by decide +kernel
theorem ck_38 : (List.range' 38 2).all chkM = true := by decide +kernel
theorem ck_40 : (List.range' 40 4).all chkM = true := by decide +kernel
theorem ck_44 : (List.range' 44 3).all chkM = true := by decide +kernel
theorem ck_47 : (List.range' 47 5).all chkM = true := by decide +kernel
theorem ck_52 : (List.range' 52 3).all chkM = true := by decide +kernel
theorem ck_55 : (List.range' 55 2).all chkM = true := by decide +kernel
theorem ck_57 : (List.range' 57 4).all chkM = true := by decide +kernel
theorem ck_61 : (List.range' 61 3).all chkM = true := by decide +kernel
theorem ck_64 : (List.range' 64 7).all chkM = true := by decide +kernel
theorem ck_71 : (List.range' 71 3).all chkM = true := by decide +kernel
theorem ck_74 : (List.range' 74 5).all chkM = true := by decide +kernel
theorem ck_79 : (List.range' 79 5).all chkM = true := by decide +kernel
theorem ck_84 : (List.range' 84 5).all chkM = true := by decide +kernel
theorem ck_89 : (List.range' 89 7).all chkM = true := by decide +kernel
theorem ck_96 : (List.range' 96 2).all chkM = true := by decide +kernel
theorem ck_98 : (List.range' 98 3).all chkM = true := by decide +kernel
