/-! premises of the start, lists -/
def stT (i : Nat) : Term := .string (stq i).1 (stq i).2.1
def stl (i : Nat) : Nat := (stb.getD i []).length
noncomputable def prem : List Cond := flatC (Jvm.Cond.and given_1 narrow_1)
def srT : List Nat := [1055, 1086, 1091, 1092, 1097, 1110, 1127, 1128, 1129, 1130, 1131, 1132, 1136, 1137, 1146, 1147, 1148, 275, 276, 277, 278, 279, 280, 281, 282, 283, 284, 811, 911, 926, 952, 953, 954, 955, 956, 957, 958, 959, 960, 961, 962, 1020, 1021, 1022, 1023, 1055, 1055, 1055, 1055, 1055, 1055, 1055, 1055]
noncomputable def exps1 (i : Nat) : List Cond := Cond.exactly (stT i) "java/lang/String" :: Cond.eq (.field (stT i) "java/lang/String" "coder" "B") (.int 0) :: Cond.arrayOf (.field (stT i) "java/lang/String" "value" "[B") .byte ::
  Cond.eq (.length (.field (stT i) "java/lang/String" "value" "[B")) (.int (Int32.ofNat (stl i))) :: (List.range (stl i)).map (fun j => Cond.eq (.elem (.field (stT i) "java/lang/String" "value" "[B") (.int (Int32.ofNat j))) (.int (i32 ((stb.getD i []).getD j 0))))
def exO : List Nat := [17, 18, 19, 20, 21, 22, 23, 24, 25, 26, 27, 28, 29, 30, 31, 32, 33, 34, 35, 36, 37, 38, 39, 40, 41, 42, 43, 44, 0, 1, 2, 3, 4, 5, 6, 7, 8, 9, 10, 11, 12, 13, 14, 15, 16]
noncomputable def exps : List Cond := exO.flatMap exps1
def notSame : Cond → Bool
  | .eq (.string _ _) _ => false
  | _ => true
/-- what is known of Integer's rows -/
noncomputable def dgs (nm : String) (i : Nat) : List Cond := Cond.arrayOf (.static "java/lang/Integer" nm "[B") .byte :: Cond.eq (.length (.static "java/lang/Integer" nm "[B")) (.int (Int32.ofNat (stl i))) ::
  (List.range (stl i)).map (fun j => Cond.eq (.elem (.static "java/lang/Integer" nm "[B") (.int (Int32.ofNat j))) (.int (i32 ((stb.getD i []).getD j 0))))
