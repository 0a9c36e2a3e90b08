/-! the static check of the tables -/
noncomputable def chkM (i : Nat) : Bool := match mtb[i]?, cdt_a[i]? with
  | some q, some es => okM q && es.all (fun x => okE q x.1 x.2)
  | _, _ => false
noncomputable def chkL (a : Nat) : Bool := match mtb[344]?, cdt_a[344]? with
  | some q, some es => ((es.drop (a * 40)).take 40).all (fun x => okE q x.1 x.2)
  | _, _ => false
noncomputable def chkL0 : Bool := match mtb[344]?, cdt_a[344]? with
  | some q, some es => decide (q.2.2.2.2.1 = []) && decide (es.length ≤ 10 * 40)
  | _, _ => false
theorem ck_0 : (List.range' 0 9).all chkM = true := by decide +kernel
theorem ck_9 : (List.range' 9 10).all chkM = true := by decide +kernel
theorem ck_19 : (List.range' 19 12).all chkM = true := by decide +kernel
theorem ck_31 : (List.range' 31 3).all chkM = true := by decide +kernel
theorem ck_34 : (List.range' 34 5).all chkM = true := by decide +kernel
theorem ck_39 : (List.range' 39 5).all chkM = true := by decide +kernel
theorem ck_44 : (List.range' 44 5).all chkM = true := by decide +kernel
theorem ck_49 : (List.range' 49 6).all chkM = true := by decide +kernel
theorem ck_55 : (List.range' 55 4).all chkM = true := by decide +kernel
