/-! premises of the start, tables -/
theorem csw : lw_tbl[298]? = some (.laysStatic "java/lang/String" "COMPACT_STRINGS" "Z") := by decide +kernel
theorem fmw : lw_tbl[314]? = some (.laysStatic "jdk/internal/util/Preconditions" "SIOOBE_FORMATTER" "Ljava/util/function/BiFunction;") := by decide +kernel
theorem unw : lw_tbl[106]? = some (.laysStatic Bundle.tN "UNASSIGNED_STACK" Bundle.steD) := by decide +kernel
theorem suw : lw_tbl[108]? = some (.laysStatic Bundle.tN "SUPPRESSED_SENTINEL" Bundle.listD) := by decide +kernel
theorem in_s : lw_tbl[58]? = some (.initialized "java/lang/String") := by decide +kernel
theorem in_p : lw_tbl[62]? = some (.initialized "jdk/internal/util/Preconditions") := by decide +kernel
theorem in_t : lw_tbl[66]? = some (.initialized Bundle.tN) := by decide +kernel
theorem insw_ok : ∀ a, a < 14 → (match vwCl[a]? with
  | some q => decide (lw_tbl[insW.getD a 0]? = some (.instantiable q.1 q.2.2))
  | none => true) = true := by decide +kernel
theorem dow : lw_tbl[941]? = some (.laysStatic "java/lang/Integer" "DigitOnes" "[B") := by decide +kernel
theorem dtw : lw_tbl[943]? = some (.laysStatic "java/lang/Integer" "DigitTens" "[B") := by decide +kernel
theorem in_i : lw_tbl[65]? = some (.initialized "java/lang/Integer") := by decide +kernel
theorem aiw : lw_tbl[1411]? = some (.arrayOver (.array .int)) := by decide +kernel
theorem slw : lw_tbl[859]? = some (.selects "java/lang/StringBuilder" yJ5_isLatin1_aae02 yJ5_isLatin1_aae02) := by decide +kernel
def pvT : List (Nat × Nat) := [(824, 825), (828, 829), (887, 888), (820, 821), (882, 883), (878, 879)]
theorem pvw : ∀ i, i < 6 → lw_tbl[(pvT.getD i (0, 0)).1]? = some (.privateMethod (privY.getD i yX0_init)) ∧ lw_tbl[(pvT.getD i (0, 0)).2]? = some (.instanceMethod (privY.getD i yX0_init)) := by decide +kernel
