/-! premises of the start, tables -/
theorem csw : lw_tbl[843]? = some (.laysStatic "java/lang/String" "COMPACT_STRINGS" "Z") := by decide +kernel
theorem fmw : lw_tbl[859]? = some (.laysStatic "jdk/internal/util/Preconditions" "SIOOBE_FORMATTER" "Ljava/util/function/BiFunction;") := by decide +kernel
theorem unw : lw_tbl[1000]? = some (.laysStatic Bundle.tN "UNASSIGNED_STACK" Bundle.steD) := by decide +kernel
theorem suw : lw_tbl[1002]? = some (.laysStatic Bundle.tN "SUPPRESSED_SENTINEL" Bundle.listD) := by decide +kernel
theorem in_s : lw_tbl[137]? = some (.initialized "java/lang/String") := by decide +kernel
theorem in_p : lw_tbl[139]? = some (.initialized "jdk/internal/util/Preconditions") := by decide +kernel
theorem in_t : lw_tbl[141]? = some (.initialized Bundle.tN) := by decide +kernel
theorem insw_ok : ∀ a, a < 11 → (match vwCl[a]? with
  | some q => decide (lw_tbl[insW.getD a 0]? = some (.instantiable q.1 q.2.2))
  | none => true) = true := by decide +kernel
