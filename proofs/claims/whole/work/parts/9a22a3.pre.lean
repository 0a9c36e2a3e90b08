/-! premises of the start, lists -/
def stT (i : Nat) : Term := .string (stq i).1 (stq i).2.1
def stl (i : Nat) : Nat := (stb.getD i []).length
noncomputable def prem : List Cond := flatC (Jvm.Cond.and given_1 narrow_1)
def srT : List Nat := [829, 906, 911, 912, 917, 930, 947, 948, 949, 950, 951, 952, 956, 957, 966, 967, 968, 1463, 1464, 1465, 1466, 1467, 1468, 1469, 1470, 1471, 1472, 1766, 1780, 1781, 1808, 1817, 1818, 1819, 1824, 1833, 1842, 1847, 1852, 1853, 1854, 1855, 1868, 1869, 2243, 2244, 2245, 2246, 2247, 2248, 2249, 2250, 2251]
def ncT : List Nat := [0, 23, 66, 37, 50, 0, 64, 36, 52, 24, 0, 38, 51, 22, 65, 0]
noncomputable def exps1 (i : Nat) : List Cond := Cond.exactly (stT i) "java/lang/String" :: Cond.eq (.field (stT i) "java/lang/String" "coder" "B") (.int 0) :: Cond.arrayOf (.field (stT i) "java/lang/String" "value" "[B") .byte ::
  Cond.eq (.length (.field (stT i) "java/lang/String" "value" "[B")) (.int (Int32.ofNat (stl i))) :: (List.range (stl i)).map (fun j => Cond.eq (.elem (.field (stT i) "java/lang/String" "value" "[B") (.int (Int32.ofNat j))) (.int (i32 ((stb.getD i []).getD j 0))))
noncomputable def exps : List Cond := (List.range 53).flatMap exps1
def notSame : Cond → Bool
  | .eq (.string _ _) _ => false
  | _ => true
