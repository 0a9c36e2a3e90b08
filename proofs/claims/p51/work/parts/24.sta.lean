/-! where the objects of a class have their parts -/
def oState (S : List (Nat × Nat)) (T : Nat → Nat → Nat) (s : Nat) : Prop := S[s]? = some (0, 7) ∧ S[s + 1]? = some (1, 4) ∧ T s 2 = s + 1 + 1 ∧ S[s + 2]? = some (1, 4) ∧ T s 3 = s + 2 + 1 ∧ S[s + 3]? = some (1, 4) ∧ T s 4 = s + 3 + 1 ∧ S[s + 4]? = some (1, 480) ∧ T s 5 = s + 4 + 1 ∧ S[s + 5]? = some (1, 480) ∧ T s 6 = s + 5 + 1 ∧ S[s + 6]? = some (1, 64) ∧ T s 7 = s + 6 + 1 ∧ S[s + 7]? = some (1, 64) ∧ T s 8 = s + 7 + 1
theorem oState_sh {S : List (Nat × Nat)} {T : Nat → Nat → Nat} {s : Nat} (h : oState S T s) : S[s]? = some (0, 7) := h.1
theorem oState_s2 {S : List (Nat × Nat)} {T : Nat → Nat → Nat} {s : Nat} (h : oState S T s) : S[s + 1]? = some (1, 4) := h.2.1
theorem oState_r2 {S : List (Nat × Nat)} {T : Nat → Nat → Nat} {s : Nat} (h : oState S T s) : T s 2 = s + 1 + 1 := h.2.2.1
theorem oState_s3 {S : List (Nat × Nat)} {T : Nat → Nat → Nat} {s : Nat} (h : oState S T s) : S[s + 2]? = some (1, 4) := h.2.2.2.1
theorem oState_r3 {S : List (Nat × Nat)} {T : Nat → Nat → Nat} {s : Nat} (h : oState S T s) : T s 3 = s + 2 + 1 := h.2.2.2.2.1
theorem oState_s4 {S : List (Nat × Nat)} {T : Nat → Nat → Nat} {s : Nat} (h : oState S T s) : S[s + 3]? = some (1, 4) := h.2.2.2.2.2.1
theorem oState_r4 {S : List (Nat × Nat)} {T : Nat → Nat → Nat} {s : Nat} (h : oState S T s) : T s 4 = s + 3 + 1 := h.2.2.2.2.2.2.1
theorem oState_s5 {S : List (Nat × Nat)} {T : Nat → Nat → Nat} {s : Nat} (h : oState S T s) : S[s + 4]? = some (1, 480) := h.2.2.2.2.2.2.2.1
theorem oState_r5 {S : List (Nat × Nat)} {T : Nat → Nat → Nat} {s : Nat} (h : oState S T s) : T s 5 = s + 4 + 1 := h.2.2.2.2.2.2.2.2.1
theorem oState_s6 {S : List (Nat × Nat)} {T : Nat → Nat → Nat} {s : Nat} (h : oState S T s) : S[s + 5]? = some (1, 480) := h.2.2.2.2.2.2.2.2.2.1
theorem oState_r6 {S : List (Nat × Nat)} {T : Nat → Nat → Nat} {s : Nat} (h : oState S T s) : T s 6 = s + 5 + 1 := h.2.2.2.2.2.2.2.2.2.2.1
theorem oState_s7 {S : List (Nat × Nat)} {T : Nat → Nat → Nat} {s : Nat} (h : oState S T s) : S[s + 6]? = some (1, 64) := h.2.2.2.2.2.2.2.2.2.2.2.1
theorem oState_r7 {S : List (Nat × Nat)} {T : Nat → Nat → Nat} {s : Nat} (h : oState S T s) : T s 7 = s + 6 + 1 := h.2.2.2.2.2.2.2.2.2.2.2.2.1
theorem oState_s8 {S : List (Nat × Nat)} {T : Nat → Nat → Nat} {s : Nat} (h : oState S T s) : S[s + 7]? = some (1, 64) := h.2.2.2.2.2.2.2.2.2.2.2.2.2.1
theorem oState_r8 {S : List (Nat × Nat)} {T : Nat → Nat → Nat} {s : Nat} (h : oState S T s) : T s 8 = s + 7 + 1 := h.2.2.2.2.2.2.2.2.2.2.2.2.2.2
def oLog (S : List (Nat × Nat)) (T : Nat → Nat → Nat) (s : Nat) : Prop := S[s]? = some (0, 3) ∧ S[s + 1]? = some (1, 1800) ∧ T s 1 = s + 1 + 1 ∧ S[s + 2]? = some (1, 600) ∧ T s 2 = s + 2 + 1 ∧ S[s + 3]? = some (1, 4) ∧ T s 3 = s + 3 + 1 ∧ S[s + 4]? = some (1, 4) ∧ T s 4 = s + 4 + 1 ∧ S[s + 5]? = some (1, 4) ∧ T s 5 = s + 5 + 1
theorem oLog_sh {S : List (Nat × Nat)} {T : Nat → Nat → Nat} {s : Nat} (h : oLog S T s) : S[s]? = some (0, 3) := h.1
theorem oLog_s1 {S : List (Nat × Nat)} {T : Nat → Nat → Nat} {s : Nat} (h : oLog S T s) : S[s + 1]? = some (1, 1800) := h.2.1
theorem oLog_r1 {S : List (Nat × Nat)} {T : Nat → Nat → Nat} {s : Nat} (h : oLog S T s) : T s 1 = s + 1 + 1 := h.2.2.1
theorem oLog_s2 {S : List (Nat × Nat)} {T : Nat → Nat → Nat} {s : Nat} (h : oLog S T s) : S[s + 2]? = some (1, 600) := h.2.2.2.1
theorem oLog_r2 {S : List (Nat × Nat)} {T : Nat → Nat → Nat} {s : Nat} (h : oLog S T s) : T s 2 = s + 2 + 1 := h.2.2.2.2.1
theorem oLog_s3 {S : List (Nat × Nat)} {T : Nat → Nat → Nat} {s : Nat} (h : oLog S T s) : S[s + 3]? = some (1, 4) := h.2.2.2.2.2.1
theorem oLog_r3 {S : List (Nat × Nat)} {T : Nat → Nat → Nat} {s : Nat} (h : oLog S T s) : T s 3 = s + 3 + 1 := h.2.2.2.2.2.2.1
theorem oLog_s4 {S : List (Nat × Nat)} {T : Nat → Nat → Nat} {s : Nat} (h : oLog S T s) : S[s + 4]? = some (1, 4) := h.2.2.2.2.2.2.2.1
theorem oLog_r4 {S : List (Nat × Nat)} {T : Nat → Nat → Nat} {s : Nat} (h : oLog S T s) : T s 4 = s + 4 + 1 := h.2.2.2.2.2.2.2.2.1
theorem oLog_s5 {S : List (Nat × Nat)} {T : Nat → Nat → Nat} {s : Nat} (h : oLog S T s) : S[s + 5]? = some (1, 4) := h.2.2.2.2.2.2.2.2.2.1
theorem oLog_r5 {S : List (Nat × Nat)} {T : Nat → Nat → Nat} {s : Nat} (h : oLog S T s) : T s 5 = s + 5 + 1 := h.2.2.2.2.2.2.2.2.2.2
def oLimits (S : List (Nat × Nat)) (T : Nat → Nat → Nat) (s : Nat) : Prop := S[s]? = some (0, 1) ∧ S[s + 1]? = some (1, 4) ∧ T s 1 = s + 1 + 1 ∧ S[s + 2]? = some (1, 4) ∧ T s 2 = s + 2 + 1 ∧ S[s + 3]? = some (1, 4) ∧ T s 3 = s + 3 + 1 ∧ S[s + 4]? = some (1, 4) ∧ T s 4 = s + 4 + 1
theorem oLimits_sh {S : List (Nat × Nat)} {T : Nat → Nat → Nat} {s : Nat} (h : oLimits S T s) : S[s]? = some (0, 1) := h.1
theorem oLimits_s1 {S : List (Nat × Nat)} {T : Nat → Nat → Nat} {s : Nat} (h : oLimits S T s) : S[s + 1]? = some (1, 4) := h.2.1
theorem oLimits_r1 {S : List (Nat × Nat)} {T : Nat → Nat → Nat} {s : Nat} (h : oLimits S T s) : T s 1 = s + 1 + 1 := h.2.2.1
theorem oLimits_s2 {S : List (Nat × Nat)} {T : Nat → Nat → Nat} {s : Nat} (h : oLimits S T s) : S[s + 2]? = some (1, 4) := h.2.2.2.1
theorem oLimits_r2 {S : List (Nat × Nat)} {T : Nat → Nat → Nat} {s : Nat} (h : oLimits S T s) : T s 2 = s + 2 + 1 := h.2.2.2.2.1
theorem oLimits_s3 {S : List (Nat × Nat)} {T : Nat → Nat → Nat} {s : Nat} (h : oLimits S T s) : S[s + 3]? = some (1, 4) := h.2.2.2.2.2.1
theorem oLimits_r3 {S : List (Nat × Nat)} {T : Nat → Nat → Nat} {s : Nat} (h : oLimits S T s) : T s 3 = s + 3 + 1 := h.2.2.2.2.2.2.1
theorem oLimits_s4 {S : List (Nat × Nat)} {T : Nat → Nat → Nat} {s : Nat} (h : oLimits S T s) : S[s + 4]? = some (1, 4) := h.2.2.2.2.2.2.2.1
theorem oLimits_r4 {S : List (Nat × Nat)} {T : Nat → Nat → Nat} {s : Nat} (h : oLimits S T s) : T s 4 = s + 4 + 1 := h.2.2.2.2.2.2.2.2
def oHistory (S : List (Nat × Nat)) (T : Nat → Nat → Nat) (s : Nat) : Prop := S[s]? = some (0, 0) ∧ S[s + 1]? = some (1, 120) ∧ T s 2 = s + 1 + 1 ∧ S[s + 2]? = some (1, 120) ∧ T s 3 = s + 2 + 1 ∧ S[s + 3]? = some (1, 120) ∧ T s 4 = s + 3 + 1 ∧ S[s + 4]? = some (1, 120) ∧ T s 5 = s + 4 + 1 ∧ S[s + 5]? = some (1, 120) ∧ T s 6 = s + 5 + 1 ∧ S[s + 6]? = some (1, 120) ∧ T s 7 = s + 6 + 1 ∧ S[s + 7]? = some (1, 120) ∧ T s 8 = s + 7 + 1 ∧ S[s + 8]? = some (1, 120) ∧ T s 9 = s + 8 + 1 ∧ S[s + 9]? = some (1, 120) ∧ T s 10 = s + 9 + 1
theorem oHistory_sh {S : List (Nat × Nat)} {T : Nat → Nat → Nat} {s : Nat} (h : oHistory S T s) : S[s]? = some (0, 0) := h.1
theorem oHistory_s2 {S : List (Nat × Nat)} {T : Nat → Nat → Nat} {s : Nat} (h : oHistory S T s) : S[s + 1]? = some (1, 120) := h.2.1
theorem oHistory_r2 {S : List (Nat × Nat)} {T : Nat → Nat → Nat} {s : Nat} (h : oHistory S T s) : T s 2 = s + 1 + 1 := h.2.2.1
theorem oHistory_s3 {S : List (Nat × Nat)} {T : Nat → Nat → Nat} {s : Nat} (h : oHistory S T s) : S[s + 2]? = some (1, 120) := h.2.2.2.1
theorem oHistory_r3 {S : List (Nat × Nat)} {T : Nat → Nat → Nat} {s : Nat} (h : oHistory S T s) : T s 3 = s + 2 + 1 := h.2.2.2.2.1
theorem oHistory_s4 {S : List (Nat × Nat)} {T : Nat → Nat → Nat} {s : Nat} (h : oHistory S T s) : S[s + 3]? = some (1, 120) := h.2.2.2.2.2.1
theorem oHistory_r4 {S : List (Nat × Nat)} {T : Nat → Nat → Nat} {s : Nat} (h : oHistory S T s) : T s 4 = s + 3 + 1 := h.2.2.2.2.2.2.1
theorem oHistory_s5 {S : List (Nat × Nat)} {T : Nat → Nat → Nat} {s : Nat} (h : oHistory S T s) : S[s + 4]? = some (1, 120) := h.2.2.2.2.2.2.2.1
theorem oHistory_r5 {S : List (Nat × Nat)} {T : Nat → Nat → Nat} {s : Nat} (h : oHistory S T s) : T s 5 = s + 4 + 1 := h.2.2.2.2.2.2.2.2.1
theorem oHistory_s6 {S : List (Nat × Nat)} {T : Nat → Nat → Nat} {s : Nat} (h : oHistory S T s) : S[s + 5]? = some (1, 120) := h.2.2.2.2.2.2.2.2.2.1
theorem oHistory_r6 {S : List (Nat × Nat)} {T : Nat → Nat → Nat} {s : Nat} (h : oHistory S T s) : T s 6 = s + 5 + 1 := h.2.2.2.2.2.2.2.2.2.2.1
theorem oHistory_s7 {S : List (Nat × Nat)} {T : Nat → Nat → Nat} {s : Nat} (h : oHistory S T s) : S[s + 6]? = some (1, 120) := h.2.2.2.2.2.2.2.2.2.2.2.1
theorem oHistory_r7 {S : List (Nat × Nat)} {T : Nat → Nat → Nat} {s : Nat} (h : oHistory S T s) : T s 7 = s + 6 + 1 := h.2.2.2.2.2.2.2.2.2.2.2.2.1
theorem oHistory_s8 {S : List (Nat × Nat)} {T : Nat → Nat → Nat} {s : Nat} (h : oHistory S T s) : S[s + 7]? = some (1, 120) := h.2.2.2.2.2.2.2.2.2.2.2.2.2.1
theorem oHistory_r8 {S : List (Nat × Nat)} {T : Nat → Nat → Nat} {s : Nat} (h : oHistory S T s) : T s 8 = s + 7 + 1 := h.2.2.2.2.2.2.2.2.2.2.2.2.2.2.1
theorem oHistory_s9 {S : List (Nat × Nat)} {T : Nat → Nat → Nat} {s : Nat} (h : oHistory S T s) : S[s + 8]? = some (1, 120) := h.2.2.2.2.2.2.2.2.2.2.2.2.2.2.2.1
theorem oHistory_r9 {S : List (Nat × Nat)} {T : Nat → Nat → Nat} {s : Nat} (h : oHistory S T s) : T s 9 = s + 8 + 1 := h.2.2.2.2.2.2.2.2.2.2.2.2.2.2.2.2.1
theorem oHistory_s10 {S : List (Nat × Nat)} {T : Nat → Nat → Nat} {s : Nat} (h : oHistory S T s) : S[s + 9]? = some (1, 120) := h.2.2.2.2.2.2.2.2.2.2.2.2.2.2.2.2.2.1
theorem oHistory_r10 {S : List (Nat × Nat)} {T : Nat → Nat → Nat} {s : Nat} (h : oHistory S T s) : T s 10 = s + 9 + 1 := h.2.2.2.2.2.2.2.2.2.2.2.2.2.2.2.2.2.2
def oSuppositions (S : List (Nat × Nat)) (T : Nat → Nat → Nat) (s : Nat) : Prop := S[s]? = some (0, 8) ∧ S[s + 1]? = some (1, 15) ∧ T s 0 = s + 1 + 1 ∧ S[s + 2]? = some (4, 120) ∧ T s 1 = s + 2 + 1
theorem oSuppositions_sh {S : List (Nat × Nat)} {T : Nat → Nat → Nat} {s : Nat} (h : oSuppositions S T s) : S[s]? = some (0, 8) := h.1
theorem oSuppositions_s0 {S : List (Nat × Nat)} {T : Nat → Nat → Nat} {s : Nat} (h : oSuppositions S T s) : S[s + 1]? = some (1, 15) := h.2.1
theorem oSuppositions_r0 {S : List (Nat × Nat)} {T : Nat → Nat → Nat} {s : Nat} (h : oSuppositions S T s) : T s 0 = s + 1 + 1 := h.2.2.1
theorem oSuppositions_s1 {S : List (Nat × Nat)} {T : Nat → Nat → Nat} {s : Nat} (h : oSuppositions S T s) : S[s + 2]? = some (4, 120) := h.2.2.2.1
theorem oSuppositions_r1 {S : List (Nat × Nat)} {T : Nat → Nat → Nat} {s : Nat} (h : oSuppositions S T s) : T s 1 = s + 2 + 1 := h.2.2.2.2
def oLine (S : List (Nat × Nat)) (T : Nat → Nat → Nat) (s : Nat) : Prop := S[s]? = some (0, 2) ∧ S[s + 1]? = some (3, 600) ∧ T s 0 = s + 1 + 1
theorem oLine_sh {S : List (Nat × Nat)} {T : Nat → Nat → Nat} {s : Nat} (h : oLine S T s) : S[s]? = some (0, 2) := h.1
theorem oLine_s0 {S : List (Nat × Nat)} {T : Nat → Nat → Nat} {s : Nat} (h : oLine S T s) : S[s + 1]? = some (3, 600) := h.2.1
theorem oLine_r0 {S : List (Nat × Nat)} {T : Nat → Nat → Nat} {s : Nat} (h : oLine S T s) : T s 0 = s + 1 + 1 := h.2.2
def oSetup (S : List (Nat × Nat)) (T : Nat → Nat → Nat) (s : Nat) : Prop := S[s]? = some (0, 6) ∧ oLimits S T (s + 1) ∧ T s 0 = s + 1 + 1 ∧ S[s + 6]? = some (1, 4) ∧ T s 1 = s + 6 + 1 ∧ S[s + 7]? = some (1, 9) ∧ T s 3 = s + 7 + 1 ∧ S[s + 8]? = some (1, 600) ∧ T s 4 = s + 8 + 1
theorem oSetup_sh {S : List (Nat × Nat)} {T : Nat → Nat → Nat} {s : Nat} (h : oSetup S T s) : S[s]? = some (0, 6) := h.1
theorem oSetup_o0 {S : List (Nat × Nat)} {T : Nat → Nat → Nat} {s : Nat} (h : oSetup S T s) : oLimits S T (s + 1) := h.2.1
theorem oSetup_r0 {S : List (Nat × Nat)} {T : Nat → Nat → Nat} {s : Nat} (h : oSetup S T s) : T s 0 = s + 1 + 1 := h.2.2.1
theorem oSetup_s1 {S : List (Nat × Nat)} {T : Nat → Nat → Nat} {s : Nat} (h : oSetup S T s) : S[s + 6]? = some (1, 4) := h.2.2.2.1
theorem oSetup_r1 {S : List (Nat × Nat)} {T : Nat → Nat → Nat} {s : Nat} (h : oSetup S T s) : T s 1 = s + 6 + 1 := h.2.2.2.2.1
theorem oSetup_s3 {S : List (Nat × Nat)} {T : Nat → Nat → Nat} {s : Nat} (h : oSetup S T s) : S[s + 7]? = some (1, 9) := h.2.2.2.2.2.1
theorem oSetup_r3 {S : List (Nat × Nat)} {T : Nat → Nat → Nat} {s : Nat} (h : oSetup S T s) : T s 3 = s + 7 + 1 := h.2.2.2.2.2.2.1
theorem oSetup_s4 {S : List (Nat × Nat)} {T : Nat → Nat → Nat} {s : Nat} (h : oSetup S T s) : S[s + 8]? = some (1, 600) := h.2.2.2.2.2.2.2.1
theorem oSetup_r4 {S : List (Nat × Nat)} {T : Nat → Nat → Nat} {s : Nat} (h : oSetup S T s) : T s 4 = s + 8 + 1 := h.2.2.2.2.2.2.2.2
def oRun (S : List (Nat × Nat)) (T : Nat → Nat → Nat) (s : Nat) (x : Nat) : Prop := S[s]? = some (0, 5) ∧ oLimits S T (s + 1) ∧ T s 0 = s + 1 + 1 ∧ oState S T (s + 6) ∧ T s 1 = s + 6 + 1 ∧ oLog S T (s + 14) ∧ T s 2 = s + 14 + 1 ∧ oHistory S T x ∧ T s 3 = x + 1
theorem oRun_sh {S : List (Nat × Nat)} {T : Nat → Nat → Nat} {s x : Nat} (h : oRun S T s x) : S[s]? = some (0, 5) := h.1
theorem oRun_o0 {S : List (Nat × Nat)} {T : Nat → Nat → Nat} {s x : Nat} (h : oRun S T s x) : oLimits S T (s + 1) := h.2.1
theorem oRun_r0 {S : List (Nat × Nat)} {T : Nat → Nat → Nat} {s x : Nat} (h : oRun S T s x) : T s 0 = s + 1 + 1 := h.2.2.1
theorem oRun_o1 {S : List (Nat × Nat)} {T : Nat → Nat → Nat} {s x : Nat} (h : oRun S T s x) : oState S T (s + 6) := h.2.2.2.1
theorem oRun_r1 {S : List (Nat × Nat)} {T : Nat → Nat → Nat} {s x : Nat} (h : oRun S T s x) : T s 1 = s + 6 + 1 := h.2.2.2.2.1
theorem oRun_o2 {S : List (Nat × Nat)} {T : Nat → Nat → Nat} {s x : Nat} (h : oRun S T s x) : oLog S T (s + 14) := h.2.2.2.2.2.1
theorem oRun_r2 {S : List (Nat × Nat)} {T : Nat → Nat → Nat} {s x : Nat} (h : oRun S T s x) : T s 2 = s + 14 + 1 := h.2.2.2.2.2.2.1
theorem oRun_o3 {S : List (Nat × Nat)} {T : Nat → Nat → Nat} {s x : Nat} (h : oRun S T s x) : oHistory S T x := h.2.2.2.2.2.2.2.1
theorem oRun_r3 {S : List (Nat × Nat)} {T : Nat → Nat → Nat} {s x : Nat} (h : oRun S T s x) : T s 3 = x + 1 := h.2.2.2.2.2.2.2.2
def oReader (S : List (Nat × Nat)) (T : Nat → Nat → Nat) (s : Nat) (tx : Nat) (q : Nat) : Prop := S[s]? = some (0, 4) ∧ oSetup S T q ∧ T s 0 = q + 1 ∧ S[tx]? = some (3, 600) ∧ T s 3 = tx + 1
theorem oReader_sh {S : List (Nat × Nat)} {T : Nat → Nat → Nat} {s tx q : Nat} (h : oReader S T s tx q) : S[s]? = some (0, 4) := h.1
theorem oReader_o0 {S : List (Nat × Nat)} {T : Nat → Nat → Nat} {s tx q : Nat} (h : oReader S T s tx q) : oSetup S T q := h.2.1
theorem oReader_r0 {S : List (Nat × Nat)} {T : Nat → Nat → Nat} {s tx q : Nat} (h : oReader S T s tx q) : T s 0 = q + 1 := h.2.2.1
theorem oReader_s3 {S : List (Nat × Nat)} {T : Nat → Nat → Nat} {s tx q : Nat} (h : oReader S T s tx q) : S[tx]? = some (3, 600) := h.2.2.2.1
theorem oReader_r3 {S : List (Nat × Nat)} {T : Nat → Nat → Nat} {s tx q : Nat} (h : oReader S T s tx q) : T s 3 = tx + 1 := h.2.2.2.2
def oDropSwitch (S : List (Nat × Nat)) (T : Nat → Nat → Nat) (s : Nat) (q : Nat) (y : Nat) : Prop := S[s]? = some (0, 9) ∧ S[s + 1]? = some (3, 600) ∧ T s 0 = s + 1 + 1 ∧ oReader S T (s + 2) (s + 1) y ∧ T s 4 = s + 2 + 1 ∧ oSetup S T q ∧ T s 5 = q + 1 ∧ oHistory S T (s + 21) ∧ T s 6 = s + 21 + 1 ∧ S[s + 31]? = some (5, 8) ∧ T s 7 = s + 31 + 1 ∧ oRun S T (s + 32) (s + 21) ∧ T s 8 = s + 32 + 1 ∧ oRun S T (s + 52) (s + 21) ∧ T s 9 = s + 52 + 1 ∧ oSuppositions S T (s + 72) ∧ T s 10 = s + 72 + 1 ∧ oRun S T (s + 75) (s + 21) ∧ T s 11 = s + 75 + 1 ∧ S[s + 95]? = some (1, 120) ∧ T s 14 = s + 95 + 1 ∧ S[s + 96]? = some (2, 720) ∧ T s 15 = s + 96 + 1 ∧ oLine S T (s + 97) ∧ T s 16 = s + 97 + 1
theorem oDropSwitch_sh {S : List (Nat × Nat)} {T : Nat → Nat → Nat} {s q y : Nat} (h : oDropSwitch S T s q y) : S[s]? = some (0, 9) := h.1
theorem oDropSwitch_s0 {S : List (Nat × Nat)} {T : Nat → Nat → Nat} {s q y : Nat} (h : oDropSwitch S T s q y) : S[s + 1]? = some (3, 600) := h.2.1
theorem oDropSwitch_r0 {S : List (Nat × Nat)} {T : Nat → Nat → Nat} {s q y : Nat} (h : oDropSwitch S T s q y) : T s 0 = s + 1 + 1 := h.2.2.1
theorem oDropSwitch_o4 {S : List (Nat × Nat)} {T : Nat → Nat → Nat} {s q y : Nat} (h : oDropSwitch S T s q y) : oReader S T (s + 2) (s + 1) y := h.2.2.2.1
theorem oDropSwitch_r4 {S : List (Nat × Nat)} {T : Nat → Nat → Nat} {s q y : Nat} (h : oDropSwitch S T s q y) : T s 4 = s + 2 + 1 := h.2.2.2.2.1
theorem oDropSwitch_o5 {S : List (Nat × Nat)} {T : Nat → Nat → Nat} {s q y : Nat} (h : oDropSwitch S T s q y) : oSetup S T q := h.2.2.2.2.2.1
theorem oDropSwitch_r5 {S : List (Nat × Nat)} {T : Nat → Nat → Nat} {s q y : Nat} (h : oDropSwitch S T s q y) : T s 5 = q + 1 := h.2.2.2.2.2.2.1
theorem oDropSwitch_o6 {S : List (Nat × Nat)} {T : Nat → Nat → Nat} {s q y : Nat} (h : oDropSwitch S T s q y) : oHistory S T (s + 21) := h.2.2.2.2.2.2.2.1
theorem oDropSwitch_r6 {S : List (Nat × Nat)} {T : Nat → Nat → Nat} {s q y : Nat} (h : oDropSwitch S T s q y) : T s 6 = s + 21 + 1 := h.2.2.2.2.2.2.2.2.1
theorem oDropSwitch_s7 {S : List (Nat × Nat)} {T : Nat → Nat → Nat} {s q y : Nat} (h : oDropSwitch S T s q y) : S[s + 31]? = some (5, 8) := h.2.2.2.2.2.2.2.2.2.1
theorem oDropSwitch_r7 {S : List (Nat × Nat)} {T : Nat → Nat → Nat} {s q y : Nat} (h : oDropSwitch S T s q y) : T s 7 = s + 31 + 1 := h.2.2.2.2.2.2.2.2.2.2.1
theorem oDropSwitch_o8 {S : List (Nat × Nat)} {T : Nat → Nat → Nat} {s q y : Nat} (h : oDropSwitch S T s q y) : oRun S T (s + 32) (s + 21) := h.2.2.2.2.2.2.2.2.2.2.2.1
theorem oDropSwitch_r8 {S : List (Nat × Nat)} {T : Nat → Nat → Nat} {s q y : Nat} (h : oDropSwitch S T s q y) : T s 8 = s + 32 + 1 := h.2.2.2.2.2.2.2.2.2.2.2.2.1
theorem oDropSwitch_o9 {S : List (Nat × Nat)} {T : Nat → Nat → Nat} {s q y : Nat} (h : oDropSwitch S T s q y) : oRun S T (s + 52) (s + 21) := h.2.2.2.2.2.2.2.2.2.2.2.2.2.1
theorem oDropSwitch_r9 {S : List (Nat × Nat)} {T : Nat → Nat → Nat} {s q y : Nat} (h : oDropSwitch S T s q y) : T s 9 = s + 52 + 1 := h.2.2.2.2.2.2.2.2.2.2.2.2.2.2.1
theorem oDropSwitch_o10 {S : List (Nat × Nat)} {T : Nat → Nat → Nat} {s q y : Nat} (h : oDropSwitch S T s q y) : oSuppositions S T (s + 72) := h.2.2.2.2.2.2.2.2.2.2.2.2.2.2.2.1
theorem oDropSwitch_r10 {S : List (Nat × Nat)} {T : Nat → Nat → Nat} {s q y : Nat} (h : oDropSwitch S T s q y) : T s 10 = s + 72 + 1 := h.2.2.2.2.2.2.2.2.2.2.2.2.2.2.2.2.1
theorem oDropSwitch_o11 {S : List (Nat × Nat)} {T : Nat → Nat → Nat} {s q y : Nat} (h : oDropSwitch S T s q y) : oRun S T (s + 75) (s + 21) := h.2.2.2.2.2.2.2.2.2.2.2.2.2.2.2.2.2.1
theorem oDropSwitch_r11 {S : List (Nat × Nat)} {T : Nat → Nat → Nat} {s q y : Nat} (h : oDropSwitch S T s q y) : T s 11 = s + 75 + 1 := h.2.2.2.2.2.2.2.2.2.2.2.2.2.2.2.2.2.2.1
theorem oDropSwitch_s14 {S : List (Nat × Nat)} {T : Nat → Nat → Nat} {s q y : Nat} (h : oDropSwitch S T s q y) : S[s + 95]? = some (1, 120) := h.2.2.2.2.2.2.2.2.2.2.2.2.2.2.2.2.2.2.2.1
theorem oDropSwitch_r14 {S : List (Nat × Nat)} {T : Nat → Nat → Nat} {s q y : Nat} (h : oDropSwitch S T s q y) : T s 14 = s + 95 + 1 := h.2.2.2.2.2.2.2.2.2.2.2.2.2.2.2.2.2.2.2.2.1
theorem oDropSwitch_s15 {S : List (Nat × Nat)} {T : Nat → Nat → Nat} {s q y : Nat} (h : oDropSwitch S T s q y) : S[s + 96]? = some (2, 720) := h.2.2.2.2.2.2.2.2.2.2.2.2.2.2.2.2.2.2.2.2.2.1
theorem oDropSwitch_r15 {S : List (Nat × Nat)} {T : Nat → Nat → Nat} {s q y : Nat} (h : oDropSwitch S T s q y) : T s 15 = s + 96 + 1 := h.2.2.2.2.2.2.2.2.2.2.2.2.2.2.2.2.2.2.2.2.2.2.1
theorem oDropSwitch_o16 {S : List (Nat × Nat)} {T : Nat → Nat → Nat} {s q y : Nat} (h : oDropSwitch S T s q y) : oLine S T (s + 97) := h.2.2.2.2.2.2.2.2.2.2.2.2.2.2.2.2.2.2.2.2.2.2.2.1
theorem oDropSwitch_r16 {S : List (Nat × Nat)} {T : Nat → Nat → Nat} {s q y : Nat} (h : oDropSwitch S T s q y) : T s 16 = s + 97 + 1 := h.2.2.2.2.2.2.2.2.2.2.2.2.2.2.2.2.2.2.2.2.2.2.2.2
def oModel (S : List (Nat × Nat)) (T : Nat → Nat → Nat) (s : Nat) : Prop := S[s]? = some (0, 10) ∧ S[s + 1]? = some (2, 4) ∧ T s 2 = s + 1 + 1 ∧ S[s + 2]? = some (1, 4) ∧ T s 3 = s + 2 + 1 ∧ S[s + 3]? = some (1, 4) ∧ T s 4 = s + 3 + 1 ∧ S[s + 4]? = some (1, 4) ∧ T s 5 = s + 4 + 1 ∧ S[s + 5]? = some (1, 4) ∧ T s 6 = s + 5 + 1 ∧ S[s + 6]? = some (4, 8) ∧ T s 11 = s + 6 + 1 ∧ S[s + 7]? = some (1, 8) ∧ T s 12 = s + 7 + 1 ∧ S[s + 8]? = some (1, 8) ∧ T s 13 = s + 8 + 1 ∧ S[s + 9]? = some (1, 900) ∧ T s 14 = s + 9 + 1 ∧ S[s + 10]? = some (1, 840) ∧ T s 17 = s + 10 + 1 ∧ S[s + 11]? = some (1, 120) ∧ T s 18 = s + 11 + 1 ∧ S[s + 12]? = some (3, 600) ∧ T s 19 = s + 12 + 1 ∧ S[s + 13]? = some (2, 4) ∧ T s 26 = s + 13 + 1 ∧ S[s + 14]? = some (1, 4) ∧ T s 27 = s + 14 + 1 ∧ S[s + 15]? = some (1, 4) ∧ T s 28 = s + 15 + 1 ∧ S[s + 16]? = some (1, 4) ∧ T s 29 = s + 16 + 1 ∧ S[s + 17]? = some (1, 4) ∧ T s 30 = s + 17 + 1 ∧ S[s + 18]? = some (4, 8) ∧ T s 35 = s + 18 + 1 ∧ S[s + 19]? = some (1, 8) ∧ T s 36 = s + 19 + 1 ∧ S[s + 20]? = some (1, 8) ∧ T s 37 = s + 20 + 1 ∧ S[s + 21]? = some (1, 900) ∧ T s 38 = s + 21 + 1 ∧ S[s + 22]? = some (1, 300) ∧ T s 40 = s + 22 + 1 ∧ S[s + 23]? = some (1, 4) ∧ T s 43 = s + 23 + 1 ∧ S[s + 24]? = some (4, 120) ∧ T s 48 = s + 24 + 1 ∧ S[s + 25]? = some (1, 4) ∧ T s 49 = s + 25 + 1 ∧ S[s + 26]? = some (4, 120) ∧ T s 54 = s + 26 + 1 ∧ S[s + 27]? = some (4, 4) ∧ T s 56 = s + 27 + 1 ∧ S[s + 28]? = some (1, 400) ∧ T s 57 = s + 28 + 1 ∧ S[s + 29]? = some (1, 400) ∧ T s 58 = s + 29 + 1 ∧ S[s + 30]? = some (1, 4) ∧ T s 59 = s + 30 + 1 ∧ S[s + 31]? = some (1, 4) ∧ T s 60 = s + 31 + 1 ∧ S[s + 32]? = some (1, 64) ∧ T s 61 = s + 32 + 1 ∧ S[s + 33]? = some (1, 64) ∧ T s 62 = s + 33 + 1 ∧ S[s + 34]? = some (1, 480) ∧ T s 63 = s + 34 + 1 ∧ S[s + 35]? = some (1, 4) ∧ T s 64 = s + 35 + 1 ∧ S[s + 36]? = some (1, 2000) ∧ T s 65 = s + 36 + 1 ∧ S[s + 37]? = some (4, 300) ∧ T s 70 = s + 37 + 1 ∧ S[s + 38]? = some (4, 600) ∧ T s 71 = s + 38 + 1 ∧ S[s + 39]? = some (1, 900) ∧ T s 74 = s + 39 + 1
theorem oModel_sh {S : List (Nat × Nat)} {T : Nat → Nat → Nat} {s : Nat} (h : oModel S T s) : S[s]? = some (0, 10) := h.1
theorem oModel_s2 {S : List (Nat × Nat)} {T : Nat → Nat → Nat} {s : Nat} (h : oModel S T s) : S[s + 1]? = some (2, 4) := h.2.1
theorem oModel_r2 {S : List (Nat × Nat)} {T : Nat → Nat → Nat} {s : Nat} (h : oModel S T s) : T s 2 = s + 1 + 1 := h.2.2.1
theorem oModel_s3 {S : List (Nat × Nat)} {T : Nat → Nat → Nat} {s : Nat} (h : oModel S T s) : S[s + 2]? = some (1, 4) := h.2.2.2.1
theorem oModel_r3 {S : List (Nat × Nat)} {T : Nat → Nat → Nat} {s : Nat} (h : oModel S T s) : T s 3 = s + 2 + 1 := h.2.2.2.2.1
theorem oModel_s4 {S : List (Nat × Nat)} {T : Nat → Nat → Nat} {s : Nat} (h : oModel S T s) : S[s + 3]? = some (1, 4) := h.2.2.2.2.2.1
theorem oModel_r4 {S : List (Nat × Nat)} {T : Nat → Nat → Nat} {s : Nat} (h : oModel S T s) : T s 4 = s + 3 + 1 := h.2.2.2.2.2.2.1
theorem oModel_s5 {S : List (Nat × Nat)} {T : Nat → Nat → Nat} {s : Nat} (h : oModel S T s) : S[s + 4]? = some (1, 4) := h.2.2.2.2.2.2.2.1
theorem oModel_r5 {S : List (Nat × Nat)} {T : Nat → Nat → Nat} {s : Nat} (h : oModel S T s) : T s 5 = s + 4 + 1 := h.2.2.2.2.2.2.2.2.1
theorem oModel_s6 {S : List (Nat × Nat)} {T : Nat → Nat → Nat} {s : Nat} (h : oModel S T s) : S[s + 5]? = some (1, 4) := h.2.2.2.2.2.2.2.2.2.1
theorem oModel_r6 {S : List (Nat × Nat)} {T : Nat → Nat → Nat} {s : Nat} (h : oModel S T s) : T s 6 = s + 5 + 1 := h.2.2.2.2.2.2.2.2.2.2.1
theorem oModel_s11 {S : List (Nat × Nat)} {T : Nat → Nat → Nat} {s : Nat} (h : oModel S T s) : S[s + 6]? = some (4, 8) := h.2.2.2.2.2.2.2.2.2.2.2.1
theorem oModel_r11 {S : List (Nat × Nat)} {T : Nat → Nat → Nat} {s : Nat} (h : oModel S T s) : T s 11 = s + 6 + 1 := h.2.2.2.2.2.2.2.2.2.2.2.2.1
theorem oModel_s12 {S : List (Nat × Nat)} {T : Nat → Nat → Nat} {s : Nat} (h : oModel S T s) : S[s + 7]? = some (1, 8) := h.2.2.2.2.2.2.2.2.2.2.2.2.2.1
theorem oModel_r12 {S : List (Nat × Nat)} {T : Nat → Nat → Nat} {s : Nat} (h : oModel S T s) : T s 12 = s + 7 + 1 := h.2.2.2.2.2.2.2.2.2.2.2.2.2.2.1
theorem oModel_s13 {S : List (Nat × Nat)} {T : Nat → Nat → Nat} {s : Nat} (h : oModel S T s) : S[s + 8]? = some (1, 8) := h.2.2.2.2.2.2.2.2.2.2.2.2.2.2.2.1
theorem oModel_r13 {S : List (Nat × Nat)} {T : Nat → Nat → Nat} {s : Nat} (h : oModel S T s) : T s 13 = s + 8 + 1 := h.2.2.2.2.2.2.2.2.2.2.2.2.2.2.2.2.1
theorem oModel_s14 {S : List (Nat × Nat)} {T : Nat → Nat → Nat} {s : Nat} (h : oModel S T s) : S[s + 9]? = some (1, 900) := h.2.2.2.2.2.2.2.2.2.2.2.2.2.2.2.2.2.1
theorem oModel_r14 {S : List (Nat × Nat)} {T : Nat → Nat → Nat} {s : Nat} (h : oModel S T s) : T s 14 = s + 9 + 1 := h.2.2.2.2.2.2.2.2.2.2.2.2.2.2.2.2.2.2.1
theorem oModel_s17 {S : List (Nat × Nat)} {T : Nat → Nat → Nat} {s : Nat} (h : oModel S T s) : S[s + 10]? = some (1, 840) := h.2.2.2.2.2.2.2.2.2.2.2.2.2.2.2.2.2.2.2.1
theorem oModel_r17 {S : List (Nat × Nat)} {T : Nat → Nat → Nat} {s : Nat} (h : oModel S T s) : T s 17 = s + 10 + 1 := h.2.2.2.2.2.2.2.2.2.2.2.2.2.2.2.2.2.2.2.2.1
theorem oModel_s18 {S : List (Nat × Nat)} {T : Nat → Nat → Nat} {s : Nat} (h : oModel S T s) : S[s + 11]? = some (1, 120) := h.2.2.2.2.2.2.2.2.2.2.2.2.2.2.2.2.2.2.2.2.2.1
theorem oModel_r18 {S : List (Nat × Nat)} {T : Nat → Nat → Nat} {s : Nat} (h : oModel S T s) : T s 18 = s + 11 + 1 := h.2.2.2.2.2.2.2.2.2.2.2.2.2.2.2.2.2.2.2.2.2.2.1
theorem oModel_s19 {S : List (Nat × Nat)} {T : Nat → Nat → Nat} {s : Nat} (h : oModel S T s) : S[s + 12]? = some (3, 600) := h.2.2.2.2.2.2.2.2.2.2.2.2.2.2.2.2.2.2.2.2.2.2.2.1
theorem oModel_r19 {S : List (Nat × Nat)} {T : Nat → Nat → Nat} {s : Nat} (h : oModel S T s) : T s 19 = s + 12 + 1 := h.2.2.2.2.2.2.2.2.2.2.2.2.2.2.2.2.2.2.2.2.2.2.2.2.1
theorem oModel_s26 {S : List (Nat × Nat)} {T : Nat → Nat → Nat} {s : Nat} (h : oModel S T s) : S[s + 13]? = some (2, 4) := h.2.2.2.2.2.2.2.2.2.2.2.2.2.2.2.2.2.2.2.2.2.2.2.2.2.1
theorem oModel_r26 {S : List (Nat × Nat)} {T : Nat → Nat → Nat} {s : Nat} (h : oModel S T s) : T s 26 = s + 13 + 1 := h.2.2.2.2.2.2.2.2.2.2.2.2.2.2.2.2.2.2.2.2.2.2.2.2.2.2.1
theorem oModel_s27 {S : List (Nat × Nat)} {T : Nat → Nat → Nat} {s : Nat} (h : oModel S T s) : S[s + 14]? = some (1, 4) := h.2.2.2.2.2.2.2.2.2.2.2.2.2.2.2.2.2.2.2.2.2.2.2.2.2.2.2.1
theorem oModel_r27 {S : List (Nat × Nat)} {T : Nat → Nat → Nat} {s : Nat} (h : oModel S T s) : T s 27 = s + 14 + 1 := h.2.2.2.2.2.2.2.2.2.2.2.2.2.2.2.2.2.2.2.2.2.2.2.2.2.2.2.2.1
theorem oModel_s28 {S : List (Nat × Nat)} {T : Nat → Nat → Nat} {s : Nat} (h : oModel S T s) : S[s + 15]? = some (1, 4) := h.2.2.2.2.2.2.2.2.2.2.2.2.2.2.2.2.2.2.2.2.2.2.2.2.2.2.2.2.2.1
theorem oModel_r28 {S : List (Nat × Nat)} {T : Nat → Nat → Nat} {s : Nat} (h : oModel S T s) : T s 28 = s + 15 + 1 := h.2.2.2.2.2.2.2.2.2.2.2.2.2.2.2.2.2.2.2.2.2.2.2.2.2.2.2.2.2.2.1
theorem oModel_s29 {S : List (Nat × Nat)} {T : Nat → Nat → Nat} {s : Nat} (h : oModel S T s) : S[s + 16]? = some (1, 4) := h.2.2.2.2.2.2.2.2.2.2.2.2.2.2.2.2.2.2.2.2.2.2.2.2.2.2.2.2.2.2.2.1
theorem oModel_r29 {S : List (Nat × Nat)} {T : Nat → Nat → Nat} {s : Nat} (h : oModel S T s) : T s 29 = s + 16 + 1 := h.2.2.2.2.2.2.2.2.2.2.2.2.2.2.2.2.2.2.2.2.2.2.2.2.2.2.2.2.2.2.2.2.1
theorem oModel_s30 {S : List (Nat × Nat)} {T : Nat → Nat → Nat} {s : Nat} (h : oModel S T s) : S[s + 17]? = some (1, 4) := h.2.2.2.2.2.2.2.2.2.2.2.2.2.2.2.2.2.2.2.2.2.2.2.2.2.2.2.2.2.2.2.2.2.1
theorem oModel_r30 {S : List (Nat × Nat)} {T : Nat → Nat → Nat} {s : Nat} (h : oModel S T s) : T s 30 = s + 17 + 1 := h.2.2.2.2.2.2.2.2.2.2.2.2.2.2.2.2.2.2.2.2.2.2.2.2.2.2.2.2.2.2.2.2.2.2.1
theorem oModel_s35 {S : List (Nat × Nat)} {T : Nat → Nat → Nat} {s : Nat} (h : oModel S T s) : S[s + 18]? = some (4, 8) := h.2.2.2.2.2.2.2.2.2.2.2.2.2.2.2.2.2.2.2.2.2.2.2.2.2.2.2.2.2.2.2.2.2.2.2.1
theorem oModel_r35 {S : List (Nat × Nat)} {T : Nat → Nat → Nat} {s : Nat} (h : oModel S T s) : T s 35 = s + 18 + 1 := h.2.2.2.2.2.2.2.2.2.2.2.2.2.2.2.2.2.2.2.2.2.2.2.2.2.2.2.2.2.2.2.2.2.2.2.2.1
theorem oModel_s36 {S : List (Nat × Nat)} {T : Nat → Nat → Nat} {s : Nat} (h : oModel S T s) : S[s + 19]? = some (1, 8) := h.2.2.2.2.2.2.2.2.2.2.2.2.2.2.2.2.2.2.2.2.2.2.2.2.2.2.2.2.2.2.2.2.2.2.2.2.2.1
theorem oModel_r36 {S : List (Nat × Nat)} {T : Nat → Nat → Nat} {s : Nat} (h : oModel S T s) : T s 36 = s + 19 + 1 := h.2.2.2.2.2.2.2.2.2.2.2.2.2.2.2.2.2.2.2.2.2.2.2.2.2.2.2.2.2.2.2.2.2.2.2.2.2.2.1
theorem oModel_s37 {S : List (Nat × Nat)} {T : Nat → Nat → Nat} {s : Nat} (h : oModel S T s) : S[s + 20]? = some (1, 8) := h.2.2.2.2.2.2.2.2.2.2.2.2.2.2.2.2.2.2.2.2.2.2.2.2.2.2.2.2.2.2.2.2.2.2.2.2.2.2.2.1
theorem oModel_r37 {S : List (Nat × Nat)} {T : Nat → Nat → Nat} {s : Nat} (h : oModel S T s) : T s 37 = s + 20 + 1 := h.2.2.2.2.2.2.2.2.2.2.2.2.2.2.2.2.2.2.2.2.2.2.2.2.2.2.2.2.2.2.2.2.2.2.2.2.2.2.2.2.1
theorem oModel_s38 {S : List (Nat × Nat)} {T : Nat → Nat → Nat} {s : Nat} (h : oModel S T s) : S[s + 21]? = some (1, 900) := h.2.2.2.2.2.2.2.2.2.2.2.2.2.2.2.2.2.2.2.2.2.2.2.2.2.2.2.2.2.2.2.2.2.2.2.2.2.2.2.2.2.1
theorem oModel_r38 {S : List (Nat × Nat)} {T : Nat → Nat → Nat} {s : Nat} (h : oModel S T s) : T s 38 = s + 21 + 1 := h.2.2.2.2.2.2.2.2.2.2.2.2.2.2.2.2.2.2.2.2.2.2.2.2.2.2.2.2.2.2.2.2.2.2.2.2.2.2.2.2.2.2.1
theorem oModel_s40 {S : List (Nat × Nat)} {T : Nat → Nat → Nat} {s : Nat} (h : oModel S T s) : S[s + 22]? = some (1, 300) := h.2.2.2.2.2.2.2.2.2.2.2.2.2.2.2.2.2.2.2.2.2.2.2.2.2.2.2.2.2.2.2.2.2.2.2.2.2.2.2.2.2.2.2.1
theorem oModel_r40 {S : List (Nat × Nat)} {T : Nat → Nat → Nat} {s : Nat} (h : oModel S T s) : T s 40 = s + 22 + 1 := h.2.2.2.2.2.2.2.2.2.2.2.2.2.2.2.2.2.2.2.2.2.2.2.2.2.2.2.2.2.2.2.2.2.2.2.2.2.2.2.2.2.2.2.2.1
theorem oModel_s43 {S : List (Nat × Nat)} {T : Nat → Nat → Nat} {s : Nat} (h : oModel S T s) : S[s + 23]? = some (1, 4) := h.2.2.2.2.2.2.2.2.2.2.2.2.2.2.2.2.2.2.2.2.2.2.2.2.2.2.2.2.2.2.2.2.2.2.2.2.2.2.2.2.2.2.2.2.2.1
theorem oModel_r43 {S : List (Nat × Nat)} {T : Nat → Nat → Nat} {s : Nat} (h : oModel S T s) : T s 43 = s + 23 + 1 := h.2.2.2.2.2.2.2.2.2.2.2.2.2.2.2.2.2.2.2.2.2.2.2.2.2.2.2.2.2.2.2.2.2.2.2.2.2.2.2.2.2.2.2.2.2.2.1
theorem oModel_s48 {S : List (Nat × Nat)} {T : Nat → Nat → Nat} {s : Nat} (h : oModel S T s) : S[s + 24]? = some (4, 120) := h.2.2.2.2.2.2.2.2.2.2.2.2.2.2.2.2.2.2.2.2.2.2.2.2.2.2.2.2.2.2.2.2.2.2.2.2.2.2.2.2.2.2.2.2.2.2.2.1
theorem oModel_r48 {S : List (Nat × Nat)} {T : Nat → Nat → Nat} {s : Nat} (h : oModel S T s) : T s 48 = s + 24 + 1 := h.2.2.2.2.2.2.2.2.2.2.2.2.2.2.2.2.2.2.2.2.2.2.2.2.2.2.2.2.2.2.2.2.2.2.2.2.2.2.2.2.2.2.2.2.2.2.2.2.1
theorem oModel_s49 {S : List (Nat × Nat)} {T : Nat → Nat → Nat} {s : Nat} (h : oModel S T s) : S[s + 25]? = some (1, 4) := h.2.2.2.2.2.2.2.2.2.2.2.2.2.2.2.2.2.2.2.2.2.2.2.2.2.2.2.2.2.2.2.2.2.2.2.2.2.2.2.2.2.2.2.2.2.2.2.2.2.1
theorem oModel_r49 {S : List (Nat × Nat)} {T : Nat → Nat → Nat} {s : Nat} (h : oModel S T s) : T s 49 = s + 25 + 1 := h.2.2.2.2.2.2.2.2.2.2.2.2.2.2.2.2.2.2.2.2.2.2.2.2.2.2.2.2.2.2.2.2.2.2.2.2.2.2.2.2.2.2.2.2.2.2.2.2.2.2.1
theorem oModel_s54 {S : List (Nat × Nat)} {T : Nat → Nat → Nat} {s : Nat} (h : oModel S T s) : S[s + 26]? = some (4, 120) := h.2.2.2.2.2.2.2.2.2.2.2.2.2.2.2.2.2.2.2.2.2.2.2.2.2.2.2.2.2.2.2.2.2.2.2.2.2.2.2.2.2.2.2.2.2.2.2.2.2.2.2.1
theorem oModel_r54 {S : List (Nat × Nat)} {T : Nat → Nat → Nat} {s : Nat} (h : oModel S T s) : T s 54 = s + 26 + 1 := h.2.2.2.2.2.2.2.2.2.2.2.2.2.2.2.2.2.2.2.2.2.2.2.2.2.2.2.2.2.2.2.2.2.2.2.2.2.2.2.2.2.2.2.2.2.2.2.2.2.2.2.2.1
theorem oModel_s56 {S : List (Nat × Nat)} {T : Nat → Nat → Nat} {s : Nat} (h : oModel S T s) : S[s + 27]? = some (4, 4) := h.2.2.2.2.2.2.2.2.2.2.2.2.2.2.2.2.2.2.2.2.2.2.2.2.2.2.2.2.2.2.2.2.2.2.2.2.2.2.2.2.2.2.2.2.2.2.2.2.2.2.2.2.2.1
theorem oModel_r56 {S : List (Nat × Nat)} {T : Nat → Nat → Nat} {s : Nat} (h : oModel S T s) : T s 56 = s + 27 + 1 := h.2.2.2.2.2.2.2.2.2.2.2.2.2.2.2.2.2.2.2.2.2.2.2.2.2.2.2.2.2.2.2.2.2.2.2.2.2.2.2.2.2.2.2.2.2.2.2.2.2.2.2.2.2.2.1
theorem oModel_s57 {S : List (Nat × Nat)} {T : Nat → Nat → Nat} {s : Nat} (h : oModel S T s) : S[s + 28]? = some (1, 400) := h.2.2.2.2.2.2.2.2.2.2.2.2.2.2.2.2.2.2.2.2.2.2.2.2.2.2.2.2.2.2.2.2.2.2.2.2.2.2.2.2.2.2.2.2.2.2.2.2.2.2.2.2.2.2.2.1
theorem oModel_r57 {S : List (Nat × Nat)} {T : Nat → Nat → Nat} {s : Nat} (h : oModel S T s) : T s 57 = s + 28 + 1 := h.2.2.2.2.2.2.2.2.2.2.2.2.2.2.2.2.2.2.2.2.2.2.2.2.2.2.2.2.2.2.2.2.2.2.2.2.2.2.2.2.2.2.2.2.2.2.2.2.2.2.2.2.2.2.2.2.1
theorem oModel_s58 {S : List (Nat × Nat)} {T : Nat → Nat → Nat} {s : Nat} (h : oModel S T s) : S[s + 29]? = some (1, 400) := h.2.2.2.2.2.2.2.2.2.2.2.2.2.2.2.2.2.2.2.2.2.2.2.2.2.2.2.2.2.2.2.2.2.2.2.2.2.2.2.2.2.2.2.2.2.2.2.2.2.2.2.2.2.2.2.2.2.1
theorem oModel_r58 {S : List (Nat × Nat)} {T : Nat → Nat → Nat} {s : Nat} (h : oModel S T s) : T s 58 = s + 29 + 1 := h.2.2.2.2.2.2.2.2.2.2.2.2.2.2.2.2.2.2.2.2.2.2.2.2.2.2.2.2.2.2.2.2.2.2.2.2.2.2.2.2.2.2.2.2.2.2.2.2.2.2.2.2.2.2.2.2.2.2.1
theorem oModel_s59 {S : List (Nat × Nat)} {T : Nat → Nat → Nat} {s : Nat} (h : oModel S T s) : S[s + 30]? = some (1, 4) := h.2.2.2.2.2.2.2.2.2.2.2.2.2.2.2.2.2.2.2.2.2.2.2.2.2.2.2.2.2.2.2.2.2.2.2.2.2.2.2.2.2.2.2.2.2.2.2.2.2.2.2.2.2.2.2.2.2.2.2.1
theorem oModel_r59 {S : List (Nat × Nat)} {T : Nat → Nat → Nat} {s : Nat} (h : oModel S T s) : T s 59 = s + 30 + 1 := h.2.2.2.2.2.2.2.2.2.2.2.2.2.2.2.2.2.2.2.2.2.2.2.2.2.2.2.2.2.2.2.2.2.2.2.2.2.2.2.2.2.2.2.2.2.2.2.2.2.2.2.2.2.2.2.2.2.2.2.2.1
theorem oModel_s60 {S : List (Nat × Nat)} {T : Nat → Nat → Nat} {s : Nat} (h : oModel S T s) : S[s + 31]? = some (1, 4) := h.2.2.2.2.2.2.2.2.2.2.2.2.2.2.2.2.2.2.2.2.2.2.2.2.2.2.2.2.2.2.2.2.2.2.2.2.2.2.2.2.2.2.2.2.2.2.2.2.2.2.2.2.2.2.2.2.2.2.2.2.2.1
theorem oModel_r60 {S : List (Nat × Nat)} {T : Nat → Nat → Nat} {s : Nat} (h : oModel S T s) : T s 60 = s + 31 + 1 := h.2.2.2.2.2.2.2.2.2.2.2.2.2.2.2.2.2.2.2.2.2.2.2.2.2.2.2.2.2.2.2.2.2.2.2.2.2.2.2.2.2.2.2.2.2.2.2.2.2.2.2.2.2.2.2.2.2.2.2.2.2.2.1
theorem oModel_s61 {S : List (Nat × Nat)} {T : Nat → Nat → Nat} {s : Nat} (h : oModel S T s) : S[s + 32]? = some (1, 64) := h.2.2.2.2.2.2.2.2.2.2.2.2.2.2.2.2.2.2.2.2.2.2.2.2.2.2.2.2.2.2.2.2.2.2.2.2.2.2.2.2.2.2.2.2.2.2.2.2.2.2.2.2.2.2.2.2.2.2.2.2.2.2.2.1
theorem oModel_r61 {S : List (Nat × Nat)} {T : Nat → Nat → Nat} {s : Nat} (h : oModel S T s) : T s 61 = s + 32 + 1 := h.2.2.2.2.2.2.2.2.2.2.2.2.2.2.2.2.2.2.2.2.2.2.2.2.2.2.2.2.2.2.2.2.2.2.2.2.2.2.2.2.2.2.2.2.2.2.2.2.2.2.2.2.2.2.2.2.2.2.2.2.2.2.2.2.1
theorem oModel_s62 {S : List (Nat × Nat)} {T : Nat → Nat → Nat} {s : Nat} (h : oModel S T s) : S[s + 33]? = some (1, 64) := h.2.2.2.2.2.2.2.2.2.2.2.2.2.2.2.2.2.2.2.2.2.2.2.2.2.2.2.2.2.2.2.2.2.2.2.2.2.2.2.2.2.2.2.2.2.2.2.2.2.2.2.2.2.2.2.2.2.2.2.2.2.2.2.2.2.1
theorem oModel_r62 {S : List (Nat × Nat)} {T : Nat → Nat → Nat} {s : Nat} (h : oModel S T s) : T s 62 = s + 33 + 1 := h.2.2.2.2.2.2.2.2.2.2.2.2.2.2.2.2.2.2.2.2.2.2.2.2.2.2.2.2.2.2.2.2.2.2.2.2.2.2.2.2.2.2.2.2.2.2.2.2.2.2.2.2.2.2.2.2.2.2.2.2.2.2.2.2.2.2.1
theorem oModel_s63 {S : List (Nat × Nat)} {T : Nat → Nat → Nat} {s : Nat} (h : oModel S T s) : S[s + 34]? = some (1, 480) := h.2.2.2.2.2.2.2.2.2.2.2.2.2.2.2.2.2.2.2.2.2.2.2.2.2.2.2.2.2.2.2.2.2.2.2.2.2.2.2.2.2.2.2.2.2.2.2.2.2.2.2.2.2.2.2.2.2.2.2.2.2.2.2.2.2.2.2.1
theorem oModel_r63 {S : List (Nat × Nat)} {T : Nat → Nat → Nat} {s : Nat} (h : oModel S T s) : T s 63 = s + 34 + 1 := h.2.2.2.2.2.2.2.2.2.2.2.2.2.2.2.2.2.2.2.2.2.2.2.2.2.2.2.2.2.2.2.2.2.2.2.2.2.2.2.2.2.2.2.2.2.2.2.2.2.2.2.2.2.2.2.2.2.2.2.2.2.2.2.2.2.2.2.2.1
theorem oModel_s64 {S : List (Nat × Nat)} {T : Nat → Nat → Nat} {s : Nat} (h : oModel S T s) : S[s + 35]? = some (1, 4) := h.2.2.2.2.2.2.2.2.2.2.2.2.2.2.2.2.2.2.2.2.2.2.2.2.2.2.2.2.2.2.2.2.2.2.2.2.2.2.2.2.2.2.2.2.2.2.2.2.2.2.2.2.2.2.2.2.2.2.2.2.2.2.2.2.2.2.2.2.2.1
theorem oModel_r64 {S : List (Nat × Nat)} {T : Nat → Nat → Nat} {s : Nat} (h : oModel S T s) : T s 64 = s + 35 + 1 := h.2.2.2.2.2.2.2.2.2.2.2.2.2.2.2.2.2.2.2.2.2.2.2.2.2.2.2.2.2.2.2.2.2.2.2.2.2.2.2.2.2.2.2.2.2.2.2.2.2.2.2.2.2.2.2.2.2.2.2.2.2.2.2.2.2.2.2.2.2.2.1
theorem oModel_s65 {S : List (Nat × Nat)} {T : Nat → Nat → Nat} {s : Nat} (h : oModel S T s) : S[s + 36]? = some (1, 2000) := h.2.2.2.2.2.2.2.2.2.2.2.2.2.2.2.2.2.2.2.2.2.2.2.2.2.2.2.2.2.2.2.2.2.2.2.2.2.2.2.2.2.2.2.2.2.2.2.2.2.2.2.2.2.2.2.2.2.2.2.2.2.2.2.2.2.2.2.2.2.2.2.1
theorem oModel_r65 {S : List (Nat × Nat)} {T : Nat → Nat → Nat} {s : Nat} (h : oModel S T s) : T s 65 = s + 36 + 1 := h.2.2.2.2.2.2.2.2.2.2.2.2.2.2.2.2.2.2.2.2.2.2.2.2.2.2.2.2.2.2.2.2.2.2.2.2.2.2.2.2.2.2.2.2.2.2.2.2.2.2.2.2.2.2.2.2.2.2.2.2.2.2.2.2.2.2.2.2.2.2.2.2.1
theorem oModel_s70 {S : List (Nat × Nat)} {T : Nat → Nat → Nat} {s : Nat} (h : oModel S T s) : S[s + 37]? = some (4, 300) := h.2.2.2.2.2.2.2.2.2.2.2.2.2.2.2.2.2.2.2.2.2.2.2.2.2.2.2.2.2.2.2.2.2.2.2.2.2.2.2.2.2.2.2.2.2.2.2.2.2.2.2.2.2.2.2.2.2.2.2.2.2.2.2.2.2.2.2.2.2.2.2.2.2.1
theorem oModel_r70 {S : List (Nat × Nat)} {T : Nat → Nat → Nat} {s : Nat} (h : oModel S T s) : T s 70 = s + 37 + 1 := h.2.2.2.2.2.2.2.2.2.2.2.2.2.2.2.2.2.2.2.2.2.2.2.2.2.2.2.2.2.2.2.2.2.2.2.2.2.2.2.2.2.2.2.2.2.2.2.2.2.2.2.2.2.2.2.2.2.2.2.2.2.2.2.2.2.2.2.2.2.2.2.2.2.2.1
theorem oModel_s71 {S : List (Nat × Nat)} {T : Nat → Nat → Nat} {s : Nat} (h : oModel S T s) : S[s + 38]? = some (4, 600) := h.2.2.2.2.2.2.2.2.2.2.2.2.2.2.2.2.2.2.2.2.2.2.2.2.2.2.2.2.2.2.2.2.2.2.2.2.2.2.2.2.2.2.2.2.2.2.2.2.2.2.2.2.2.2.2.2.2.2.2.2.2.2.2.2.2.2.2.2.2.2.2.2.2.2.2.1
theorem oModel_r71 {S : List (Nat × Nat)} {T : Nat → Nat → Nat} {s : Nat} (h : oModel S T s) : T s 71 = s + 38 + 1 := h.2.2.2.2.2.2.2.2.2.2.2.2.2.2.2.2.2.2.2.2.2.2.2.2.2.2.2.2.2.2.2.2.2.2.2.2.2.2.2.2.2.2.2.2.2.2.2.2.2.2.2.2.2.2.2.2.2.2.2.2.2.2.2.2.2.2.2.2.2.2.2.2.2.2.2.2.1
theorem oModel_s74 {S : List (Nat × Nat)} {T : Nat → Nat → Nat} {s : Nat} (h : oModel S T s) : S[s + 39]? = some (1, 900) := h.2.2.2.2.2.2.2.2.2.2.2.2.2.2.2.2.2.2.2.2.2.2.2.2.2.2.2.2.2.2.2.2.2.2.2.2.2.2.2.2.2.2.2.2.2.2.2.2.2.2.2.2.2.2.2.2.2.2.2.2.2.2.2.2.2.2.2.2.2.2.2.2.2.2.2.2.2.1
theorem oModel_r74 {S : List (Nat × Nat)} {T : Nat → Nat → Nat} {s : Nat} (h : oModel S T s) : T s 74 = s + 39 + 1 := h.2.2.2.2.2.2.2.2.2.2.2.2.2.2.2.2.2.2.2.2.2.2.2.2.2.2.2.2.2.2.2.2.2.2.2.2.2.2.2.2.2.2.2.2.2.2.2.2.2.2.2.2.2.2.2.2.2.2.2.2.2.2.2.2.2.2.2.2.2.2.2.2.2.2.2.2.2.2

theorem CL_start {xs : List Int} {j r : Nat} {as ls : List AV} {m : Mem} {Q : Res → Mem → Prop} (hr : rkA j as = r) (hl : entryL j as = ls) (h : WP xs j r 0 ls [] m Q) : CL xs j as m Q := by
  unfold CL
  rw [hr, hl]
  exact h
theorem cpy_no {I : Ix} {a sp b dp n x y : Nat} (h : x ≠ b) : cpy I a sp b dp n x y = I x y := if_neg (fun q => h q.1)
theorem cpy_in {I : Ix} {a sp b dp n y : Nat} (h1 : dp ≤ y) (h2 : y < dp + n) : cpy I a sp b dp n b y = I a (sp + (y - dp)) := if_pos ⟨rfl, h1, h2⟩
theorem cpy_nr {I : Ix} {a sp b dp n y : Nat} (h : ¬ (dp ≤ y ∧ y < dp + n)) : cpy I a sp b dp n b y = I b y := if_neg (fun q => h q.2)
theorem and1 (x : Int) : a2 (fun x y => x &&& y) x 1 = x % 2 := by
  have h : (i32 x &&& i32 1) = i32 (x % 2) := nar_bool x
  show (i32 x &&& i32 1).toInt = _
  rw [h, i32_toInt (by unfold inI; omega)]
def bt (d p : Nat) : Nat := d / 2 ^ p % 2
theorem bt_lt (d p : Nat) : bt d p < 2 := Nat.mod_lt _ (by decide)
theorem shr4 : ∀ d : Nat, d < 16 → ∀ p : Nat, p < 4 → a2 (fun x y => x >>> (y &&& 31)) (d : Int) (p : Int) = ((d / 2 ^ p : Nat) : Int) := by decide +kernel
theorem shr8 : ∀ d : Nat, d < 256 → ∀ p : Nat, p < 8 → a2 (fun x y => x >>> (y &&& 31)) (d : Int) (p : Int) = ((d / 2 ^ p : Nat) : Int) := by decide +kernel
theorem shl1 : ∀ p : Nat, p < 16 → a2 (fun x y => x <<< (y &&& 31)) 1 (p : Int) = ((2 ^ p : Nat) : Int) := by decide +kernel
/-- the bit p off, on -/
def bclr (d p : Nat) : Nat := d - 2 ^ p * bt d p
def bset (d p : Nat) : Nat := d - 2 ^ p * bt d p + 2 ^ p
theorem xor4 : ∀ p : Nat, p < 4 → a2 (fun x y => x ^^^ y) ((2 ^ p : Nat) : Int) (-1) = -((2 ^ p : Nat) : Int) - 1 := by decide +kernel
theorem clr4 : ∀ d : Nat, d < 16 → ∀ p : Nat, p < 4 → a2 (fun x y => x &&& y) (d : Int) (-((2 ^ p : Nat) : Int) - 1) = ((bclr d p : Nat) : Int) := by decide +kernel
theorem set4 : ∀ d : Nat, d < 16 → ∀ p : Nat, p < 4 → a2 (fun x y => x ||| y) (d : Int) ((2 ^ p : Nat) : Int) = ((bset d p : Nat) : Int) := by decide +kernel
/-- the first n places of a row, all of them v -/
def fl (I : Ix) (a n : Nat) (v : Int) : Ix := fun x y => if x = a ∧ y < n then v else I x y
theorem fl_0 (I : Ix) (a : Nat) (v : Int) : fl I a 0 v = I := by
  funext x y; unfold fl; rw [if_neg (by omega)]
theorem fl_s (I : Ix) (a n : Nat) (v : Int) : up (fl I a n v) a n v = fl I a (n + 1) v := by
  funext x y; unfold up fl
  by_cases h : x = a ∧ y = n
  · rw [if_pos h, if_pos ⟨h.1, by omega⟩]
  · rw [if_neg h]
    by_cases h2 : x = a ∧ y < n
    · rw [if_pos h2, if_pos ⟨h2.1, by omega⟩]
    · rw [if_neg h2, if_neg (by omega)]
theorem fl_in {I : Ix} {a n y : Nat} {v : Int} (h : y < n) : fl I a n v a y = v := if_pos ⟨rfl, h⟩
theorem fl_no {I : Ix} {a n x y : Nat} {v : Int} (h : x ≠ a) : fl I a n v x y = I x y := if_neg (fun q => h q.1)
section STA
variable {xs : List Int} {S : List (Nat × Nat)} {T : Nat → Nat → Nat} {cc zz s : Nat}

theorem mx_305 : mxl 305 = 4 := by decide +kernel
theorem mt_305 : mtc 305 = 99 := by decide +kernel
theorem rk_305 (as : List AV) : rkA 305 as = 0 := rfl
theorem l_305_0 : look 305 0 = some (.iconst 0, 1, 0, 0, 0, 0) := by decide +kernel
theorem l_305_1 : look 305 1 = some (.istore_n 2, 1, 0, 0, 0, 0) := by decide +kernel
theorem l_305_2 : look 305 2 = some (.aload_n 0, 1, 0, 0, 0, 0) := by decide +kernel
theorem l_305_3 : look 305 3 = some (.arraylength, 1, 0, 0, 0, 0) := by decide +kernel
theorem l_305_4 : look 305 4 = some (.istore_n 3, 1, 0, 0, 0, 0) := by decide +kernel
theorem l_305_5 : look 305 5 = some (.iload_n 2, 1, 0, 0, 0, 0) := by decide +kernel
theorem l_305_6 : look 305 6 = some (.iload_n 3, 1, 0, 0, 0, 0) := by decide +kernel
theorem l_305_7 : look 305 7 = some (.if_icmp .ge 13, 3, 0, 0, 0, 0) := by decide +kernel
theorem l_305_10 : look 305 10 = some (.aload_n 0, 1, 0, 0, 0, 0) := by decide +kernel
theorem l_305_11 : look 305 11 = some (.iload_n 2, 1, 0, 0, 0, 0) := by decide +kernel
theorem l_305_12 : look 305 12 = some (.iload_n 1, 1, 0, 0, 0, 0) := by decide +kernel
theorem l_305_13 : look 305 13 = some (.iastore, 1, 0, 0, 0, 0) := by decide +kernel
theorem l_305_14 : look 305 14 = some (.iinc 2 1, 3, 0, 0, 0, 0) := by decide +kernel
theorem l_305_17 : look 305 17 = some (.goto (-12), 3, 0, 0, 0, 0) := by decide +kernel
theorem l_305_20 : look 305 20 = some (.return_, 1, 0, 0, 0, 0) := by decide +kernel
theorem lp_305 {I : Ix} {a n : Nat} {v : Int} (h : S[a]? = some (1, n)) (hn : n < 100000) : ∀ d i, i + d = n → WP xs 305 0 5 [vr a, vi v, vi ((i : Nat) : Int), vi ((n : Nat) : Int)] [] (S, fl I a i v, T, cc, zz) (FN none (S, fl I a n v, T, cc, zz)) := by
  intro d
  induction d with
  | zero =>
    intro i hi
    refine w_iln l_305_5 rfl ?_
    refine w_iln l_305_6 rfl ?_
    refine w_cge 20 l_305_7 (by decide) (fun _ => ?_) (fun hx => absurd hx (by omega))
    refine w_vr l_305_20 ?_
    subst hi
    exact ⟨rfl, rfl⟩
  | succ d ih =>
    intro i hi
    refine w_iln l_305_5 rfl ?_
    refine w_iln l_305_6 rfl ?_
    refine w_cge 20 l_305_7 (by decide) (fun hx => absurd hx (by omega)) (fun _ => ?_)
    refine w_aln l_305_10 rfl ?_
    refine w_iln l_305_11 rfl ?_
    refine w_iln l_305_12 rfl ?_
    refine w_iS i l_305_13 h rfl (by omega) ?_
    refine w_inc ((i + 1 : Nat) : Int) l_305_14 rfl rfl (by unfold wr; omega) ?_
    refine w_go 5 l_305_17 (by decide) ?_
    rw [fl_s]
    exact ih (i + 1) (by omega)

theorem s_305 {I : Ix} {a n : Nat} {v : Int} (h : S[a]? = some (1, n)) (hn : n < 100000) : CL xs 305 [vr a, vi v] (S, I, T, cc, zz) (FN none (S, fl I a n v, T, cc, zz)) := by
  refine CL_start (r := 0) (ls := [vr a, vi v, vs 2, vs 2]) (rk_305 _) rfl ?_
  refine w_ic l_305_0 (by decide) ?_
  refine w_isn l_305_1 ⟨Nat.le_of_ble_eq_true rfl, rfl⟩ ?_
  refine w_aln l_305_2 rfl ?_
  refine w_len l_305_3 h ?_
  refine w_isn l_305_4 ⟨Nat.le_of_ble_eq_true rfl, rfl⟩ ?_
  have := lp_305 (xs := xs) (T := T) (cc := cc) (zz := zz) (I := I) (v := v) h hn n 0 (by omega)
  rw [fl_0] at this
  exact this

theorem mx_84 : mxl 84 = 3 := by decide +kernel
theorem mt_84 : mtc 84 = 7 := by decide +kernel
theorem rk_84 (as : List AV) : rkA 84 as = 0 := rfl
theorem l_84_0 : look 84 0 = some (.iload_n 2, 1, 0, 0, 0, 0) := by decide +kernel
theorem l_84_1 : look 84 1 = some (.ifCond .lt 27, 3, 0, 0, 0, 0) := by decide +kernel
theorem l_84_4 : look 84 4 = some (.iload_n 2, 1, 0, 0, 0, 0) := by decide +kernel
theorem l_84_5 : look 84 5 = some (.aload_n 0, 1, 0, 0, 0, 0) := by decide +kernel
theorem l_84_6 : look 84 6 = some (.getfield 18, 3, 7, 4, 2, 581) := by decide +kernel
theorem l_84_9 : look 84 9 = some (.iload_n 1, 1, 0, 0, 0, 0) := by decide +kernel
theorem l_84_10 : look 84 10 = some (.iaload, 1, 0, 0, 0, 0) := by decide +kernel
theorem l_84_11 : look 84 11 = some (.if_icmp .ge 17, 3, 0, 0, 0, 0) := by decide +kernel
theorem l_84_14 : look 84 14 = some (.aload_n 0, 1, 0, 0, 0, 0) := by decide +kernel
theorem l_84_15 : look 84 15 = some (.getfield 21, 3, 7, 5, 2, 584) := by decide +kernel
theorem l_84_18 : look 84 18 = some (.iload_n 1, 1, 0, 0, 0, 0) := by decide +kernel
theorem l_84_19 : look 84 19 = some (.bipush 120, 2, 0, 0, 0, 0) := by decide +kernel
theorem l_84_21 : look 84 21 = some (.imul, 1, 0, 0, 0, 0) := by decide +kernel
theorem l_84_22 : look 84 22 = some (.iload_n 2, 1, 0, 0, 0, 0) := by decide +kernel
theorem l_84_23 : look 84 23 = some (.iadd, 1, 0, 0, 0, 0) := by decide +kernel
theorem l_84_24 : look 84 24 = some (.iaload, 1, 0, 0, 0, 0) := by decide +kernel
theorem l_84_25 : look 84 25 = some (.goto 4, 3, 0, 0, 0, 0) := by decide +kernel
theorem l_84_28 : look 84 28 = some (.iconst (-1), 1, 0, 0, 0, 0) := by decide +kernel
theorem l_84_29 : look 84 29 = some (.ireturn, 1, 0, 0, 0, 0) := by decide +kernel
theorem s_84 {I : Ix} (h : oState S T s) {p n : Nat} {k : Int} (hp : p < 4) (hn : I (s + 3) p = (n : Int)) (hn1 : n ≤ 120) : CL xs 84 [vr s, vi ((p : Nat) : Int), vi k] (S, I, T, cc, zz) (FN (some (vi (if 0 ≤ k ∧ k < n then I (s + 4) (((p * 120 : Nat) : Int) + k).toNat else -1))) (S, I, T, cc, zz)) := by
  refine CL_start (r := 0) (ls := [vr s, vi ((p : Nat) : Int), vi k]) (rk_84 _) rfl ?_
  refine w_iln l_84_0 rfl ?_
  refine w_zlt 28 l_84_1 (by decide) (fun h1 => ?_) (fun h1 => ?_)
  · skip
    refine w_ic l_84_28 (by decide) ?_
    refine w_ir l_84_29 (Or.inl rfl) ?_
    refine ⟨?_, rfl⟩
    first
      | rw [if_neg (by omega)]
      | rw [if_pos (by omega)]
  · skip
    refine w_iln l_84_4 rfl ?_
    refine w_aln l_84_5 rfl ?_
    refine w_gr l_84_6 (oState_sh h) (oState_r4 h) ?_
    refine w_iln l_84_9 rfl ?_
    refine w_ia p ((n : Nat) : Int) l_84_10 (oState_s4 h) rfl (by omega) hn ?_
    refine w_cge 28 l_84_11 (by decide) (fun h2 => ?_) (fun h2 => ?_)
    · skip
      refine w_ic l_84_28 (by decide) ?_
      refine w_ir l_84_29 (Or.inl rfl) ?_
      refine ⟨?_, rfl⟩
      first
        | rw [if_neg (by omega)]
        | rw [if_pos (by omega)]
    · skip
      refine w_aln l_84_14 rfl ?_
      refine w_gr l_84_15 (oState_sh h) (oState_r5 h) ?_
      refine w_iln l_84_18 rfl ?_
      refine w_bp l_84_19 (by decide) ?_
      refine w_mul ((p * 120 : Nat) : Int) l_84_21 (by unfold wr; omega) ?_
      refine w_iln l_84_22 rfl ?_
      refine w_add (((p * 120 : Nat) : Int) + k) l_84_23 (by unfold wr; omega) ?_
      refine w_ia ((((p * 120 : Nat) : Int) + k).toNat) (I (s + 4) ((((p * 120 : Nat) : Int) + k).toNat)) l_84_24 (oState_s5 h) (by omega) (by omega) rfl ?_
      refine w_go 29 l_84_25 (by decide) ?_
      refine w_ir l_84_29 (Or.inl rfl) ?_
      refine ⟨?_, rfl⟩
      first
        | rw [if_neg (by omega)]
        | rw [if_pos (by omega)]

theorem mx_85 : mxl 85 = 3 := by decide +kernel
theorem mt_85 : mtc 85 = 7 := by decide +kernel
theorem rk_85 (as : List AV) : rkA 85 as = 0 := rfl
theorem l_85_0 : look 85 0 = some (.iload_n 2, 1, 0, 0, 0, 0) := by decide +kernel
theorem l_85_1 : look 85 1 = some (.ifCond .lt 32, 3, 0, 0, 0, 0) := by decide +kernel
theorem l_85_4 : look 85 4 = some (.iload_n 2, 1, 0, 0, 0, 0) := by decide +kernel
theorem l_85_5 : look 85 5 = some (.aload_n 0, 1, 0, 0, 0, 0) := by decide +kernel
theorem l_85_6 : look 85 6 = some (.getfield 18, 3, 7, 4, 2, 581) := by decide +kernel
theorem l_85_9 : look 85 9 = some (.iload_n 1, 1, 0, 0, 0, 0) := by decide +kernel
theorem l_85_10 : look 85 10 = some (.iaload, 1, 0, 0, 0, 0) := by decide +kernel
theorem l_85_11 : look 85 11 = some (.if_icmp .ge 22, 3, 0, 0, 0, 0) := by decide +kernel
theorem l_85_14 : look 85 14 = some (.aload_n 0, 1, 0, 0, 0, 0) := by decide +kernel
theorem l_85_15 : look 85 15 = some (.getfield 33, 3, 7, 0, 0, 571) := by decide +kernel
theorem l_85_18 : look 85 18 = some (.aload_n 0, 1, 0, 0, 0, 0) := by decide +kernel
theorem l_85_19 : look 85 19 = some (.getfield 24, 3, 7, 6, 2, 585) := by decide +kernel
theorem l_85_22 : look 85 22 = some (.iload_n 1, 1, 0, 0, 0, 0) := by decide +kernel
theorem l_85_23 : look 85 23 = some (.bipush 120, 2, 0, 0, 0, 0) := by decide +kernel
theorem l_85_25 : look 85 25 = some (.imul, 1, 0, 0, 0, 0) := by decide +kernel
theorem l_85_26 : look 85 26 = some (.iload_n 2, 1, 0, 0, 0, 0) := by decide +kernel
theorem l_85_27 : look 85 27 = some (.iadd, 1, 0, 0, 0, 0) := by decide +kernel
theorem l_85_28 : look 85 28 = some (.iaload, 1, 0, 0, 0, 0) := by decide +kernel
theorem l_85_29 : look 85 29 = some (.isub, 1, 0, 0, 0, 0) := by decide +kernel
theorem l_85_30 : look 85 30 = some (.goto 4, 3, 0, 0, 0, 0) := by decide +kernel
theorem l_85_33 : look 85 33 = some (.iconst 0, 1, 0, 0, 0, 0) := by decide +kernel
theorem l_85_34 : look 85 34 = some (.ireturn, 1, 0, 0, 0, 0) := by decide +kernel
theorem s_85 {I : Ix} (h : oState S T s) {p n t : Nat} {k : Int} (hp : p < 4) (hn : I (s + 3) p = (n : Int)) (hn1 : n ≤ 120) (ht : I s 0 = (t : Int)) (ht1 : t ≤ 1000) (hr : ∀ j, 0 ≤ I (s + 5) j ∧ I (s + 5) j ≤ 1000) : CL xs 85 [vr s, vi ((p : Nat) : Int), vi k] (S, I, T, cc, zz) (FN (some (vi (if 0 ≤ k ∧ k < n then (t : Int) - I (s + 5) (((p * 120 : Nat) : Int) + k).toNat else 0))) (S, I, T, cc, zz)) := by
  refine CL_start (r := 0) (ls := [vr s, vi ((p : Nat) : Int), vi k]) (rk_85 _) rfl ?_
  refine w_iln l_85_0 rfl ?_
  refine w_zlt 33 l_85_1 (by decide) (fun h1 => ?_) (fun h1 => ?_)
  · skip
    refine w_ic l_85_33 (by decide) ?_
    refine w_ir l_85_34 (Or.inl rfl) ?_
    refine ⟨?_, rfl⟩
    first
      | rw [if_neg (by omega)]
      | rw [if_pos (by omega)]
  · skip
    refine w_iln l_85_4 rfl ?_
    refine w_aln l_85_5 rfl ?_
    refine w_gr l_85_6 (oState_sh h) (oState_r4 h) ?_
    refine w_iln l_85_9 rfl ?_
    refine w_ia p ((n : Nat) : Int) l_85_10 (oState_s4 h) rfl (by omega) hn ?_
    refine w_cge 33 l_85_11 (by decide) (fun h2 => ?_) (fun h2 => ?_)
    · skip
      refine w_ic l_85_33 (by decide) ?_
      refine w_ir l_85_34 (Or.inl rfl) ?_
      refine ⟨?_, rfl⟩
      first
        | rw [if_neg (by omega)]
        | rw [if_pos (by omega)]
    · skip
      refine w_aln l_85_14 rfl ?_
      refine w_gi ((t : Nat) : Int) l_85_15 (oState_sh h) ht ?_
      refine w_aln l_85_18 rfl ?_
      refine w_gr l_85_19 (oState_sh h) (oState_r6 h) ?_
      refine w_iln l_85_22 rfl ?_
      refine w_bp l_85_23 (by decide) ?_
      refine w_mul ((p * 120 : Nat) : Int) l_85_25 (by unfold wr; omega) ?_
      refine w_iln l_85_26 rfl ?_
      refine w_add (((p * 120 : Nat) : Int) + k) l_85_27 (by unfold wr; omega) ?_
      refine w_ia ((((p * 120 : Nat) : Int) + k).toNat) (I (s + 5) ((((p * 120 : Nat) : Int) + k).toNat)) l_85_28 (oState_s6 h) (by omega) (by omega) rfl ?_
      refine w_sub (((t : Nat) : Int) - (I (s + 5) ((((p * 120 : Nat) : Int) + k).toNat))) l_85_29 (by have h9 := hr ((((p * 120 : Nat) : Int) + k).toNat); unfold wr; omega) ?_
      refine w_go 34 l_85_30 (by decide) ?_
      refine w_ir l_85_34 (Or.inl rfl) ?_
      refine ⟨?_, rfl⟩
      first
        | rw [if_neg (by omega)]
        | rw [if_pos (by omega)]

theorem mx_86 : mxl 86 = 5 := by decide +kernel
theorem mt_86 : mtc 86 = 7 := by decide +kernel
theorem rk_86 (as : List AV) : rkA 86 as = 0 := rfl
theorem l_86_0 : look 86 0 = some (.aload_n 0, 1, 0, 0, 0, 0) := by decide +kernel
theorem l_86_1 : look 86 1 = some (.getfield 18, 3, 7, 4, 2, 581) := by decide +kernel
theorem l_86_4 : look 86 4 = some (.iload_n 1, 1, 0, 0, 0, 0) := by decide +kernel
theorem l_86_5 : look 86 5 = some (.iaload, 1, 0, 0, 0, 0) := by decide +kernel
theorem l_86_6 : look 86 6 = some (.bipush 120, 2, 0, 0, 0, 0) := by decide +kernel
theorem l_86_8 : look 86 8 = some (.if_icmp .lt 4, 3, 0, 0, 0, 0) := by decide +kernel
theorem l_86_11 : look 86 11 = some (.return_, 1, 0, 0, 0, 0) := by decide +kernel
theorem l_86_12 : look 86 12 = some (.iload_n 1, 1, 0, 0, 0, 0) := by decide +kernel
theorem l_86_13 : look 86 13 = some (.bipush 120, 2, 0, 0, 0, 0) := by decide +kernel
theorem l_86_15 : look 86 15 = some (.imul, 1, 0, 0, 0, 0) := by decide +kernel
theorem l_86_16 : look 86 16 = some (.aload_n 0, 1, 0, 0, 0, 0) := by decide +kernel
theorem l_86_17 : look 86 17 = some (.getfield 18, 3, 7, 4, 2, 581) := by decide +kernel
theorem l_86_20 : look 86 20 = some (.iload_n 1, 1, 0, 0, 0, 0) := by decide +kernel
theorem l_86_21 : look 86 21 = some (.iaload, 1, 0, 0, 0, 0) := by decide +kernel
theorem l_86_22 : look 86 22 = some (.iadd, 1, 0, 0, 0, 0) := by decide +kernel
theorem l_86_23 : look 86 23 = some (.istore 4, 2, 0, 0, 0, 0) := by decide +kernel
theorem l_86_25 : look 86 25 = some (.aload_n 0, 1, 0, 0, 0, 0) := by decide +kernel
theorem l_86_26 : look 86 26 = some (.getfield 21, 3, 7, 5, 2, 584) := by decide +kernel
theorem l_86_29 : look 86 29 = some (.iload 4, 2, 0, 0, 0, 0) := by decide +kernel
theorem l_86_31 : look 86 31 = some (.iload_n 2, 1, 0, 0, 0, 0) := by decide +kernel
theorem l_86_32 : look 86 32 = some (.iastore, 1, 0, 0, 0, 0) := by decide +kernel
theorem l_86_33 : look 86 33 = some (.aload_n 0, 1, 0, 0, 0, 0) := by decide +kernel
theorem l_86_34 : look 86 34 = some (.getfield 24, 3, 7, 6, 2, 585) := by decide +kernel
theorem l_86_37 : look 86 37 = some (.iload 4, 2, 0, 0, 0, 0) := by decide +kernel
theorem l_86_39 : look 86 39 = some (.aload_n 0, 1, 0, 0, 0, 0) := by decide +kernel
theorem l_86_40 : look 86 40 = some (.getfield 33, 3, 7, 0, 0, 571) := by decide +kernel
theorem l_86_43 : look 86 43 = some (.iastore, 1, 0, 0, 0, 0) := by decide +kernel
theorem l_86_44 : look 86 44 = some (.aload_n 0, 1, 0, 0, 0, 0) := by decide +kernel
theorem l_86_45 : look 86 45 = some (.getfield 18, 3, 7, 4, 2, 581) := by decide +kernel
theorem l_86_48 : look 86 48 = some (.iload_n 1, 1, 0, 0, 0, 0) := by decide +kernel
theorem l_86_49 : look 86 49 = some (.dup2, 1, 0, 0, 0, 0) := by decide +kernel
theorem l_86_50 : look 86 50 = some (.iaload, 1, 0, 0, 0, 0) := by decide +kernel
theorem l_86_51 : look 86 51 = some (.iconst 1, 1, 0, 0, 0, 0) := by decide +kernel
theorem l_86_52 : look 86 52 = some (.iadd, 1, 0, 0, 0, 0) := by decide +kernel
theorem l_86_53 : look 86 53 = some (.iastore, 1, 0, 0, 0, 0) := by decide +kernel
theorem l_86_54 : look 86 54 = some (.aload_n 0, 1, 0, 0, 0, 0) := by decide +kernel
theorem l_86_55 : look 86 55 = some (.getfield 15, 3, 7, 3, 2, 577) := by decide +kernel
theorem l_86_58 : look 86 58 = some (.iload_n 1, 1, 0, 0, 0, 0) := by decide +kernel
theorem l_86_59 : look 86 59 = some (.dup2, 1, 0, 0, 0, 0) := by decide +kernel
theorem l_86_60 : look 86 60 = some (.iaload, 1, 0, 0, 0, 0) := by decide +kernel
theorem l_86_61 : look 86 61 = some (.iload_n 3, 1, 0, 0, 0, 0) := by decide +kernel
theorem l_86_62 : look 86 62 = some (.iadd, 1, 0, 0, 0, 0) := by decide +kernel
theorem l_86_63 : look 86 63 = some (.iastore, 1, 0, 0, 0, 0) := by decide +kernel
theorem l_86_64 : look 86 64 = some (.return_, 1, 0, 0, 0, 0) := by decide +kernel
theorem s_86 {I : Ix} (h : oState S T s) {p n u z : Nat} {k t : Int} (hp : p < 4) (hn : I (s + 3) p = (n : Int)) (hn1 : n < 120) (ht : I s 0 = t) (hu : I (s + 2) p = (u : Int)) (hu1 : u + z ≤ 10000) : CL xs 86 [vr s, vi ((p : Nat) : Int), vi k, vi ((z : Nat) : Int)] (S, I, T, cc, zz) (FN none (S, up (up (up (up I (s + 4) (p * 120 + n) k) (s + 5) (p * 120 + n) t) (s + 3) p ((n + 1 : Nat) : Int)) (s + 2) p ((u + z : Nat) : Int), T, cc, zz)) := by
  refine CL_start (r := 0) (ls := [vr s, vi ((p : Nat) : Int), vi k, vi ((z : Nat) : Int), vs 2]) (rk_86 _) rfl ?_
  refine w_aln l_86_0 rfl ?_
  refine w_gr l_86_1 (oState_sh h) (oState_r4 h) ?_
  refine w_iln l_86_4 rfl ?_
  refine w_ia p ((n : Nat) : Int) l_86_5 (oState_s4 h) rfl (by omega) hn ?_
  refine w_bp l_86_6 (by decide) ?_
  refine w_clt 12 l_86_8 (by decide) (fun _ => ?_) (fun hx => absurd hx (by omega))
  refine w_iln l_86_12 rfl ?_
  refine w_bp l_86_13 (by decide) ?_
  refine w_mul ((p * 120 : Nat) : Int) l_86_15 (by unfold wr; omega) ?_
  refine w_aln l_86_16 rfl ?_
  refine w_gr l_86_17 (oState_sh h) (oState_r4 h) ?_
  refine w_iln l_86_20 rfl ?_
  refine w_ia p ((n : Nat) : Int) l_86_21 (oState_s4 h) rfl (by omega) hn ?_
  refine w_add ((p * 120 + n : Nat) : Int) l_86_22 (by unfold wr; omega) ?_
  refine w_is l_86_23 ⟨Nat.le_of_ble_eq_true rfl, rfl⟩ ?_
  refine w_aln l_86_25 rfl ?_
  refine w_gr l_86_26 (oState_sh h) (oState_r5 h) ?_
  refine w_il l_86_29 rfl ?_
  refine w_iln l_86_31 rfl ?_
  refine w_iS (p * 120 + n) l_86_32 (oState_s5 h) rfl (by omega) ?_
  refine w_aln l_86_33 rfl ?_
  refine w_gr l_86_34 (oState_sh h) (oState_r6 h) ?_
  refine w_il l_86_37 rfl ?_
  refine w_aln l_86_39 rfl ?_
  refine w_gi t l_86_40 (oState_sh h) ((up_no (by omega)).trans (ht)) ?_
  refine w_iS (p * 120 + n) l_86_43 (oState_s6 h) rfl (by omega) ?_
  refine w_aln l_86_44 rfl ?_
  refine w_gr l_86_45 (oState_sh h) (oState_r4 h) ?_
  refine w_iln l_86_48 rfl ?_
  refine w_dup2 l_86_49 rfl ?_
  refine w_ia p ((n : Nat) : Int) l_86_50 (oState_s4 h) rfl (by omega) ((up_no (by omega)).trans ((up_no (by omega)).trans (hn))) ?_
  refine w_ic l_86_51 (by decide) ?_
  refine w_add ((n + 1 : Nat) : Int) l_86_52 (by unfold wr; omega) ?_
  refine w_iS p l_86_53 (oState_s4 h) rfl (by omega) ?_
  refine w_aln l_86_54 rfl ?_
  refine w_gr l_86_55 (oState_sh h) (oState_r3 h) ?_
  refine w_iln l_86_58 rfl ?_
  refine w_dup2 l_86_59 rfl ?_
  refine w_ia p ((u : Nat) : Int) l_86_60 (oState_s3 h) rfl (by omega) ((up_no (by omega)).trans ((up_no (by omega)).trans ((up_no (by omega)).trans (hu)))) ?_
  refine w_iln l_86_61 rfl ?_
  refine w_add ((u + z : Nat) : Int) l_86_62 (by unfold wr; omega) ?_
  refine w_iS p l_86_63 (oState_s3 h) rfl (by omega) ?_
  refine w_vr l_86_64 ?_
  exact ⟨rfl, rfl⟩

theorem mx_87 : mxl 87 = 6 := by decide +kernel
theorem mt_87 : mtc 87 = 7 := by decide +kernel
theorem rk_87 (as : List AV) : rkA 87 as = 0 := rfl
theorem l_87_0 : look 87 0 = some (.iload_n 2, 1, 0, 0, 0, 0) := by decide +kernel
theorem l_87_1 : look 87 1 = some (.ifCond .lt 13, 3, 0, 0, 0, 0) := by decide +kernel
theorem l_87_4 : look 87 4 = some (.iload_n 2, 1, 0, 0, 0, 0) := by decide +kernel
theorem l_87_5 : look 87 5 = some (.aload_n 0, 1, 0, 0, 0, 0) := by decide +kernel
theorem l_87_6 : look 87 6 = some (.getfield 18, 3, 7, 4, 2, 581) := by decide +kernel
theorem l_87_9 : look 87 9 = some (.iload_n 1, 1, 0, 0, 0, 0) := by decide +kernel
theorem l_87_10 : look 87 10 = some (.iaload, 1, 0, 0, 0, 0) := by decide +kernel
theorem l_87_11 : look 87 11 = some (.if_icmp .lt 4, 3, 0, 0, 0, 0) := by decide +kernel
theorem l_87_14 : look 87 14 = some (.return_, 1, 0, 0, 0, 0) := by decide +kernel
theorem l_87_15 : look 87 15 = some (.iload_n 1, 1, 0, 0, 0, 0) := by decide +kernel
theorem l_87_16 : look 87 16 = some (.bipush 120, 2, 0, 0, 0, 0) := by decide +kernel
theorem l_87_18 : look 87 18 = some (.imul, 1, 0, 0, 0, 0) := by decide +kernel
theorem l_87_19 : look 87 19 = some (.iload_n 2, 1, 0, 0, 0, 0) := by decide +kernel
theorem l_87_20 : look 87 20 = some (.iadd, 1, 0, 0, 0, 0) := by decide +kernel
theorem l_87_21 : look 87 21 = some (.istore 4, 2, 0, 0, 0, 0) := by decide +kernel
theorem l_87_23 : look 87 23 = some (.aload_n 0, 1, 0, 0, 0, 0) := by decide +kernel
theorem l_87_24 : look 87 24 = some (.getfield 18, 3, 7, 4, 2, 581) := by decide +kernel
theorem l_87_27 : look 87 27 = some (.iload_n 1, 1, 0, 0, 0, 0) := by decide +kernel
theorem l_87_28 : look 87 28 = some (.iaload, 1, 0, 0, 0, 0) := by decide +kernel
theorem l_87_29 : look 87 29 = some (.iload_n 2, 1, 0, 0, 0, 0) := by decide +kernel
theorem l_87_30 : look 87 30 = some (.isub, 1, 0, 0, 0, 0) := by decide +kernel
theorem l_87_31 : look 87 31 = some (.iconst 1, 1, 0, 0, 0, 0) := by decide +kernel
theorem l_87_32 : look 87 32 = some (.isub, 1, 0, 0, 0, 0) := by decide +kernel
theorem l_87_33 : look 87 33 = some (.istore 5, 2, 0, 0, 0, 0) := by decide +kernel
theorem l_87_35 : look 87 35 = some (.aload_n 0, 1, 0, 0, 0, 0) := by decide +kernel
theorem l_87_36 : look 87 36 = some (.getfield 21, 3, 7, 5, 2, 584) := by decide +kernel
theorem l_87_39 : look 87 39 = some (.iload 4, 2, 0, 0, 0, 0) := by decide +kernel
theorem l_87_41 : look 87 41 = some (.iconst 1, 1, 0, 0, 0, 0) := by decide +kernel
theorem l_87_42 : look 87 42 = some (.iadd, 1, 0, 0, 0, 0) := by decide +kernel
theorem l_87_43 : look 87 43 = some (.aload_n 0, 1, 0, 0, 0, 0) := by decide +kernel
theorem l_87_44 : look 87 44 = some (.getfield 21, 3, 7, 5, 2, 584) := by decide +kernel
theorem l_87_47 : look 87 47 = some (.iload 4, 2, 0, 0, 0, 0) := by decide +kernel
theorem l_87_49 : look 87 49 = some (.iload 5, 2, 0, 0, 0, 0) := by decide +kernel
theorem l_87_51 : look 87 51 = some (.invokestatic 51, 3, 0, 5, 6, 723) := by decide +kernel
theorem l_87_54 : look 87 54 = some (.aload_n 0, 1, 0, 0, 0, 0) := by decide +kernel
theorem l_87_55 : look 87 55 = some (.getfield 24, 3, 7, 6, 2, 585) := by decide +kernel
theorem l_87_58 : look 87 58 = some (.iload 4, 2, 0, 0, 0, 0) := by decide +kernel
theorem l_87_60 : look 87 60 = some (.iconst 1, 1, 0, 0, 0, 0) := by decide +kernel
theorem l_87_61 : look 87 61 = some (.iadd, 1, 0, 0, 0, 0) := by decide +kernel
theorem l_87_62 : look 87 62 = some (.aload_n 0, 1, 0, 0, 0, 0) := by decide +kernel
theorem l_87_63 : look 87 63 = some (.getfield 24, 3, 7, 6, 2, 585) := by decide +kernel
theorem l_87_66 : look 87 66 = some (.iload 4, 2, 0, 0, 0, 0) := by decide +kernel
theorem l_87_68 : look 87 68 = some (.iload 5, 2, 0, 0, 0, 0) := by decide +kernel
theorem l_87_70 : look 87 70 = some (.invokestatic 51, 3, 0, 5, 6, 723) := by decide +kernel
theorem l_87_73 : look 87 73 = some (.aload_n 0, 1, 0, 0, 0, 0) := by decide +kernel
theorem l_87_74 : look 87 74 = some (.getfield 18, 3, 7, 4, 2, 581) := by decide +kernel
theorem l_87_77 : look 87 77 = some (.iload_n 1, 1, 0, 0, 0, 0) := by decide +kernel
theorem l_87_78 : look 87 78 = some (.dup2, 1, 0, 0, 0, 0) := by decide +kernel
theorem l_87_79 : look 87 79 = some (.iaload, 1, 0, 0, 0, 0) := by decide +kernel
theorem l_87_80 : look 87 80 = some (.iconst 1, 1, 0, 0, 0, 0) := by decide +kernel
theorem l_87_81 : look 87 81 = some (.isub, 1, 0, 0, 0, 0) := by decide +kernel
theorem l_87_82 : look 87 82 = some (.iastore, 1, 0, 0, 0, 0) := by decide +kernel
theorem l_87_83 : look 87 83 = some (.aload_n 0, 1, 0, 0, 0, 0) := by decide +kernel
theorem l_87_84 : look 87 84 = some (.getfield 15, 3, 7, 3, 2, 577) := by decide +kernel
theorem l_87_87 : look 87 87 = some (.iload_n 1, 1, 0, 0, 0, 0) := by decide +kernel
theorem l_87_88 : look 87 88 = some (.dup2, 1, 0, 0, 0, 0) := by decide +kernel
theorem l_87_89 : look 87 89 = some (.iaload, 1, 0, 0, 0, 0) := by decide +kernel
theorem l_87_90 : look 87 90 = some (.iload_n 3, 1, 0, 0, 0, 0) := by decide +kernel
theorem l_87_91 : look 87 91 = some (.isub, 1, 0, 0, 0, 0) := by decide +kernel
theorem l_87_92 : look 87 92 = some (.iastore, 1, 0, 0, 0, 0) := by decide +kernel
theorem l_87_93 : look 87 93 = some (.return_, 1, 0, 0, 0, 0) := by decide +kernel
theorem s_87 {I : Ix} (h : oState S T s) {p n u z k : Nat} (hp : p < 4) (hn : I (s + 3) p = (n : Int)) (hn1 : n ≤ 120) (hk : k < n) (hu : I (s + 2) p = (u : Int)) (hu1 : u ≤ 10000) (hz : z ≤ u) : CL xs 87 [vr s, vi ((p : Nat) : Int), vi ((k : Nat) : Int), vi ((z : Nat) : Int)] (S, I, T, cc, zz) (FN none (S, up (up (cpy (cpy I (s + 4) (p * 120 + k + 1) (s + 4) (p * 120 + k) (n - k - 1)) (s + 5) (p * 120 + k + 1) (s + 5) (p * 120 + k) (n - k - 1)) (s + 3) p ((n - 1 : Nat) : Int)) (s + 2) p ((u - z : Nat) : Int), T, cc, zz)) := by
  refine CL_start (r := 0) (ls := [vr s, vi ((p : Nat) : Int), vi ((k : Nat) : Int), vi ((z : Nat) : Int), vs 2, vs 2]) (rk_87 _) rfl ?_
  refine w_iln l_87_0 rfl ?_
  refine w_zlt 14 l_87_1 (by decide) (fun hx => absurd hx (by omega)) (fun _ => ?_)
  refine w_iln l_87_4 rfl ?_
  refine w_aln l_87_5 rfl ?_
  refine w_gr l_87_6 (oState_sh h) (oState_r4 h) ?_
  refine w_iln l_87_9 rfl ?_
  refine w_ia p ((n : Nat) : Int) l_87_10 (oState_s4 h) rfl (by omega) hn ?_
  refine w_clt 15 l_87_11 (by decide) (fun _ => ?_) (fun hx => absurd hx (by omega))
  refine w_iln l_87_15 rfl ?_
  refine w_bp l_87_16 (by decide) ?_
  refine w_mul ((p * 120 : Nat) : Int) l_87_18 (by unfold wr; omega) ?_
  refine w_iln l_87_19 rfl ?_
  refine w_add ((p * 120 + k : Nat) : Int) l_87_20 (by unfold wr; omega) ?_
  refine w_is l_87_21 ⟨Nat.le_of_ble_eq_true rfl, rfl⟩ ?_
  refine w_aln l_87_23 rfl ?_
  refine w_gr l_87_24 (oState_sh h) (oState_r4 h) ?_
  refine w_iln l_87_27 rfl ?_
  refine w_ia p ((n : Nat) : Int) l_87_28 (oState_s4 h) rfl (by omega) hn ?_
  refine w_iln l_87_29 rfl ?_
  refine w_sub (((n - k) : Nat) : Int) l_87_30 (by unfold wr; omega) ?_
  refine w_ic l_87_31 (by decide) ?_
  refine w_sub (((n - k - 1) : Nat) : Int) l_87_32 (by unfold wr; omega) ?_
  refine w_is l_87_33 ⟨Nat.le_of_ble_eq_true rfl, rfl⟩ ?_
  refine w_aln l_87_35 rfl ?_
  refine w_gr l_87_36 (oState_sh h) (oState_r5 h) ?_
  refine w_il l_87_39 rfl ?_
  refine w_ic l_87_41 (by decide) ?_
  refine w_add ((p * 120 + k + 1 : Nat) : Int) l_87_42 (by unfold wr; omega) ?_
  refine w_aln l_87_43 rfl ?_
  refine w_gr l_87_44 (oState_sh h) (oState_r5 h) ?_
  refine w_il l_87_47 rfl ?_
  refine w_il l_87_49 rfl ?_
  refine w_cp (p * 120 + k + 1) (p * 120 + k) (n - k - 1) l_87_51 (oState_s5 h) (oState_s5 h) (by decide) rfl rfl rfl (by omega) (by omega) (by decide) ?_
  refine w_aln l_87_54 rfl ?_
  refine w_gr l_87_55 (oState_sh h) (oState_r6 h) ?_
  refine w_il l_87_58 rfl ?_
  refine w_ic l_87_60 (by decide) ?_
  refine w_add ((p * 120 + k + 1 : Nat) : Int) l_87_61 (by unfold wr; omega) ?_
  refine w_aln l_87_62 rfl ?_
  refine w_gr l_87_63 (oState_sh h) (oState_r6 h) ?_
  refine w_il l_87_66 rfl ?_
  refine w_il l_87_68 rfl ?_
  refine w_cp (p * 120 + k + 1) (p * 120 + k) (n - k - 1) l_87_70 (oState_s6 h) (oState_s6 h) (by decide) rfl rfl rfl (by omega) (by omega) (by decide) ?_
  refine w_aln l_87_73 rfl ?_
  refine w_gr l_87_74 (oState_sh h) (oState_r4 h) ?_
  refine w_iln l_87_77 rfl ?_
  refine w_dup2 l_87_78 rfl ?_
  refine w_ia p ((n : Nat) : Int) l_87_79 (oState_s4 h) rfl (by omega) ((cpy_no (by omega)).trans ((cpy_no (by omega)).trans (hn))) ?_
  refine w_ic l_87_80 (by decide) ?_
  refine w_sub (((n - 1) : Nat) : Int) l_87_81 (by unfold wr; omega) ?_
  refine w_iS p l_87_82 (oState_s4 h) rfl (by omega) ?_
  refine w_aln l_87_83 rfl ?_
  refine w_gr l_87_84 (oState_sh h) (oState_r3 h) ?_
  refine w_iln l_87_87 rfl ?_
  refine w_dup2 l_87_88 rfl ?_
  refine w_ia p ((u : Nat) : Int) l_87_89 (oState_s3 h) rfl (by omega) ((up_no (by omega)).trans ((cpy_no (by omega)).trans ((cpy_no (by omega)).trans (hu)))) ?_
  refine w_iln l_87_90 rfl ?_
  refine w_sub (((u - z) : Nat) : Int) l_87_91 (by unfold wr; omega) ?_
  refine w_iS p l_87_92 (oState_s3 h) rfl (by omega) ?_
  refine w_vr l_87_93 ?_
  exact ⟨rfl, rfl⟩

theorem mx_90 : mxl 90 = 4 := by decide +kernel
theorem mt_90 : mtc 90 = 7 := by decide +kernel
theorem rk_90 (as : List AV) : rkA 90 as = 0 := rfl
theorem l_90_0 : look 90 0 = some (.aload_n 0, 1, 0, 0, 0, 0) := by decide +kernel
theorem l_90_1 : look 90 1 = some (.getfield 27, 3, 7, 7, 2, 586) := by decide +kernel
theorem l_90_4 : look 90 4 = some (.iload_n 1, 1, 0, 0, 0, 0) := by decide +kernel
theorem l_90_5 : look 90 5 = some (.iaload, 1, 0, 0, 0, 0) := by decide +kernel
theorem l_90_6 : look 90 6 = some (.iconst (-1), 1, 0, 0, 0, 0) := by decide +kernel
theorem l_90_7 : look 90 7 = some (.if_icmp .eq 22, 3, 0, 0, 0, 0) := by decide +kernel
theorem l_90_10 : look 90 10 = some (.aload_n 0, 1, 0, 0, 0, 0) := by decide +kernel
theorem l_90_11 : look 90 11 = some (.getfield 33, 3, 7, 0, 0, 571) := by decide +kernel
theorem l_90_14 : look 90 14 = some (.aload_n 0, 1, 0, 0, 0, 0) := by decide +kernel
theorem l_90_15 : look 90 15 = some (.getfield 30, 3, 7, 8, 2, 587) := by decide +kernel
theorem l_90_18 : look 90 18 = some (.iload_n 1, 1, 0, 0, 0, 0) := by decide +kernel
theorem l_90_19 : look 90 19 = some (.iaload, 1, 0, 0, 0, 0) := by decide +kernel
theorem l_90_20 : look 90 20 = some (.isub, 1, 0, 0, 0, 0) := by decide +kernel
theorem l_90_21 : look 90 21 = some (.iload_n 2, 1, 0, 0, 0, 0) := by decide +kernel
theorem l_90_22 : look 90 22 = some (.if_icmp .gt 7, 3, 0, 0, 0, 0) := by decide +kernel
theorem l_90_25 : look 90 25 = some (.iconst 1, 1, 0, 0, 0, 0) := by decide +kernel
theorem l_90_26 : look 90 26 = some (.goto 4, 3, 0, 0, 0, 0) := by decide +kernel
theorem l_90_29 : look 90 29 = some (.iconst 0, 1, 0, 0, 0, 0) := by decide +kernel
theorem l_90_30 : look 90 30 = some (.istore_n 3, 1, 0, 0, 0, 0) := by decide +kernel
theorem l_90_31 : look 90 31 = some (.iload_n 3, 1, 0, 0, 0, 0) := by decide +kernel
theorem l_90_32 : look 90 32 = some (.ifCond .eq 12, 3, 0, 0, 0, 0) := by decide +kernel
theorem l_90_35 : look 90 35 = some (.aload_n 0, 1, 0, 0, 0, 0) := by decide +kernel
theorem l_90_36 : look 90 36 = some (.getfield 27, 3, 7, 7, 2, 586) := by decide +kernel
theorem l_90_39 : look 90 39 = some (.iload_n 1, 1, 0, 0, 0, 0) := by decide +kernel
theorem l_90_40 : look 90 40 = some (.iaload, 1, 0, 0, 0, 0) := by decide +kernel
theorem l_90_41 : look 90 41 = some (.goto 4, 3, 0, 0, 0, 0) := by decide +kernel
theorem l_90_44 : look 90 44 = some (.iconst (-1), 1, 0, 0, 0, 0) := by decide +kernel
theorem l_90_45 : look 90 45 = some (.ireturn, 1, 0, 0, 0, 0) := by decide +kernel
theorem s_90 {I : Ix} (h : oState S T s) {a t e : Nat} {g w : Int} (ha : a < 64) (ht : I s 0 = (t : Int)) (ht1 : t ≤ 1000) (hw : I (s + 6) a = w) (he : I (s + 7) a = (e : Int)) (he1 : e ≤ 1000) : CL xs 90 [vr s, vi ((a : Nat) : Int), vi g] (S, I, T, cc, zz) (FN (some (vi (if w ≠ -1 ∧ (t : Int) - e ≤ g then w else -1))) (S, I, T, cc, zz)) := by
  refine CL_start (r := 0) (ls := [vr s, vi ((a : Nat) : Int), vi g, vs 2]) (rk_90 _) rfl ?_
  refine w_aln l_90_0 rfl ?_
  refine w_gr l_90_1 (oState_sh h) (oState_r7 h) ?_
  refine w_iln l_90_4 rfl ?_
  refine w_ia a w l_90_5 (oState_s7 h) rfl (by omega) hw ?_
  refine w_ic l_90_6 (by decide) ?_
  refine w_ceq 29 l_90_7 (by decide) (fun h1 => ?_) (fun h1 => ?_)
  · skip
    refine w_ic l_90_29 (by decide) ?_
    refine w_isn l_90_30 ⟨Nat.le_of_ble_eq_true rfl, rfl⟩ ?_
    refine w_iln l_90_31 rfl ?_
    refine w_zeq 44 l_90_32 (by decide) (fun _ => ?_) (fun hx => absurd hx (by decide))
    refine w_ic l_90_44 (by decide) ?_
    refine w_ir l_90_45 (Or.inl rfl) ?_
    refine ⟨?_, rfl⟩
    first
      | rw [if_neg (by omega)]
      | rw [if_pos (by omega)]
  · skip
    refine w_aln l_90_10 rfl ?_
    refine w_gi ((t : Nat) : Int) l_90_11 (oState_sh h) ht ?_
    refine w_aln l_90_14 rfl ?_
    refine w_gr l_90_15 (oState_sh h) (oState_r8 h) ?_
    refine w_iln l_90_18 rfl ?_
    refine w_ia a ((e : Nat) : Int) l_90_19 (oState_s8 h) rfl (by omega) he ?_
    refine w_sub (((t : Nat) : Int) - ((e : Nat) : Int)) l_90_20 (by unfold wr; omega) ?_
    refine w_iln l_90_21 rfl ?_
    refine w_cgt 29 l_90_22 (by decide) (fun h2 => ?_) (fun h2 => ?_)
    · skip
      refine w_ic l_90_29 (by decide) ?_
      refine w_isn l_90_30 ⟨Nat.le_of_ble_eq_true rfl, rfl⟩ ?_
      refine w_iln l_90_31 rfl ?_
      refine w_zeq 44 l_90_32 (by decide) (fun _ => ?_) (fun hx => absurd hx (by decide))
      refine w_ic l_90_44 (by decide) ?_
      refine w_ir l_90_45 (Or.inl rfl) ?_
      refine ⟨?_, rfl⟩
      first
        | rw [if_neg (by omega)]
        | rw [if_pos (by omega)]
    · skip
      refine w_ic l_90_25 (by decide) ?_
      refine w_go 30 l_90_26 (by decide) ?_
      refine w_isn l_90_30 ⟨Nat.le_of_ble_eq_true rfl, rfl⟩ ?_
      refine w_iln l_90_31 rfl ?_
      refine w_zeq 44 l_90_32 (by decide) (fun hx => absurd hx (by decide)) (fun _ => ?_)
      refine w_aln l_90_35 rfl ?_
      refine w_gr l_90_36 (oState_sh h) (oState_r7 h) ?_
      refine w_iln l_90_39 rfl ?_
      refine w_ia a w l_90_40 (oState_s7 h) rfl (by omega) hw ?_
      refine w_go 45 l_90_41 (by decide) ?_
      refine w_ir l_90_45 (Or.inl rfl) ?_
      refine ⟨?_, rfl⟩
      first
        | rw [if_neg (by omega)]
        | rw [if_pos (by omega)]

theorem mx_80 : mxl 80 = 2 := by decide +kernel
theorem mt_80 : mtc 80 = 7 := by decide +kernel
theorem rk_80 (as : List AV) : rkA 80 as = 0 := rfl
theorem l_80_0 : look 80 0 = some (.aload_n 0, 1, 0, 0, 0, 0) := by decide +kernel
theorem l_80_1 : look 80 1 = some (.getfield 37, 3, 7, 1, 0, 574) := by decide +kernel
theorem l_80_4 : look 80 4 = some (.iload_n 1, 1, 0, 0, 0, 0) := by decide +kernel
theorem l_80_5 : look 80 5 = some (.ishr, 1, 0, 0, 0, 0) := by decide +kernel
theorem l_80_6 : look 80 6 = some (.iconst 1, 1, 0, 0, 0, 0) := by decide +kernel
theorem l_80_7 : look 80 7 = some (.iand, 1, 0, 0, 0, 0) := by decide +kernel
theorem l_80_8 : look 80 8 = some (.ifCond .ne 7, 3, 0, 0, 0, 0) := by decide +kernel
theorem l_80_11 : look 80 11 = some (.iconst 1, 1, 0, 0, 0, 0) := by decide +kernel
theorem l_80_12 : look 80 12 = some (.goto 4, 3, 0, 0, 0, 0) := by decide +kernel
theorem l_80_15 : look 80 15 = some (.iconst 0, 1, 0, 0, 0, 0) := by decide +kernel
theorem l_80_16 : look 80 16 = some (.ireturn, 1, 0, 0, 1, 0) := by decide +kernel
theorem s_80 {I : Ix} (h : oState S T s) {p d : Nat} (hp : p < 4) (hd : I s 1 = (d : Int)) (hd1 : d < 16) : CL xs 80 [vr s, vi ((p : Nat) : Int)] (S, I, T, cc, zz) (FN (some (vi (b2i (decide (bt d p = 0))))) (S, I, T, cc, zz)) := by
  refine CL_start (r := 0) (ls := [vr s, vi ((p : Nat) : Int)]) (rk_80 _) rfl ?_
  refine w_aln l_80_0 rfl ?_
  refine w_gi ((d : Nat) : Int) l_80_1 (oState_sh h) hd ?_
  refine w_iln l_80_4 rfl ?_
  refine w_shr (((d / 2 ^ p) : Nat) : Int) l_80_5 (shr4 d hd1 p hp) ?_
  refine w_ic l_80_6 (by decide) ?_
  refine w_and (((bt d p) : Nat) : Int) l_80_7 (and1 _) ?_
  refine w_zne 15 l_80_8 (by decide) (fun h1 => ?_) (fun h1 => ?_)
  · skip
    refine w_ic l_80_15 (by decide) ?_
    refine w_ir l_80_16 (by decide) ?_
    refine ⟨?_, rfl⟩
    first
      | rw [show decide (bt d p = 0) = true from decide_eq_true (by omega)]; rfl
      | rw [show decide (bt d p = 0) = false from decide_eq_false (by omega)]; rfl
  · skip
    refine w_ic l_80_11 (by decide) ?_
    refine w_go 16 l_80_12 (by decide) ?_
    refine w_ir l_80_16 (by decide) ?_
    refine ⟨?_, rfl⟩
    first
      | rw [show decide (bt d p = 0) = true from decide_eq_true (by omega)]; rfl
      | rw [show decide (bt d p = 0) = false from decide_eq_false (by omega)]; rfl

theorem mx_81 : mxl 81 = 3 := by decide +kernel
theorem mt_81 : mtc 81 = 7 := by decide +kernel
theorem rk_81 (as : List AV) : rkA 81 as = 0 := rfl
theorem l_81_0 : look 81 0 = some (.iload_n 2, 1, 0, 0, 0, 0) := by decide +kernel
theorem l_81_1 : look 81 1 = some (.ifCond .eq 20, 3, 0, 0, 0, 0) := by decide +kernel
theorem l_81_4 : look 81 4 = some (.aload_n 0, 1, 0, 0, 0, 0) := by decide +kernel
theorem l_81_5 : look 81 5 = some (.dup, 1, 0, 0, 0, 0) := by decide +kernel
theorem l_81_6 : look 81 6 = some (.getfield 37, 3, 7, 1, 0, 574) := by decide +kernel
theorem l_81_9 : look 81 9 = some (.iconst 1, 1, 0, 0, 0, 0) := by decide +kernel
theorem l_81_10 : look 81 10 = some (.iload_n 1, 1, 0, 0, 0, 0) := by decide +kernel
theorem l_81_11 : look 81 11 = some (.ishl, 1, 0, 0, 0, 0) := by decide +kernel
theorem l_81_12 : look 81 12 = some (.iconst (-1), 1, 0, 0, 0, 0) := by decide +kernel
theorem l_81_13 : look 81 13 = some (.ixor, 1, 0, 0, 0, 0) := by decide +kernel
theorem l_81_14 : look 81 14 = some (.iand, 1, 0, 0, 0, 0) := by decide +kernel
theorem l_81_15 : look 81 15 = some (.putfield 37, 3, 7, 1, 0, 574) := by decide +kernel
theorem l_81_18 : look 81 18 = some (.goto 15, 3, 0, 0, 0, 0) := by decide +kernel
theorem l_81_21 : look 81 21 = some (.aload_n 0, 1, 0, 0, 0, 0) := by decide +kernel
theorem l_81_22 : look 81 22 = some (.dup, 1, 0, 0, 0, 0) := by decide +kernel
theorem l_81_23 : look 81 23 = some (.getfield 37, 3, 7, 1, 0, 574) := by decide +kernel
theorem l_81_26 : look 81 26 = some (.iconst 1, 1, 0, 0, 0, 0) := by decide +kernel
theorem l_81_27 : look 81 27 = some (.iload_n 1, 1, 0, 0, 0, 0) := by decide +kernel
theorem l_81_28 : look 81 28 = some (.ishl, 1, 0, 0, 0, 0) := by decide +kernel
theorem l_81_29 : look 81 29 = some (.ior, 1, 0, 0, 0, 0) := by decide +kernel
theorem l_81_30 : look 81 30 = some (.putfield 37, 3, 7, 1, 0, 574) := by decide +kernel
theorem l_81_33 : look 81 33 = some (.return_, 1, 0, 0, 0, 0) := by decide +kernel
theorem s_81T {I : Ix} (h : oState S T s) {p d : Nat} (hp : p < 4) (hd : I s 1 = (d : Int)) (hd1 : d < 16) : CL xs 81 [vr s, vi ((p : Nat) : Int), vi 1] (S, I, T, cc, zz) (FN none (S, up I s 1 ((bclr d p : Nat) : Int), T, cc, zz)) := by
  refine CL_start (r := 0) (ls := [vr s, vi ((p : Nat) : Int), vi 1]) (rk_81 _) rfl ?_
  refine w_iln l_81_0 rfl ?_
  refine w_zeq 21 l_81_1 (by decide) (fun hx => absurd hx (by decide)) (fun _ => ?_)
  refine w_aln l_81_4 rfl ?_
  refine w_dup l_81_5 rfl ?_
  refine w_gi ((d : Nat) : Int) l_81_6 (oState_sh h) hd ?_
  refine w_ic l_81_9 (by decide) ?_
  refine w_iln l_81_10 rfl ?_
  refine w_shl (((2 ^ p) : Nat) : Int) l_81_11 (shl1 p (by omega)) ?_
  refine w_ic l_81_12 (by decide) ?_
  refine w_xor (-((2 ^ p : Nat) : Int) - 1) l_81_13 (xor4 p hp) ?_
  refine w_and (((bclr d p) : Nat) : Int) l_81_14 (clr4 d hd1 p hp) ?_
  refine w_pi l_81_15 (oState_sh h) ?_
  refine w_go 33 l_81_18 (by decide) ?_
  refine w_vr l_81_33 ?_
  exact ⟨rfl, rfl⟩

theorem s_81F {I : Ix} (h : oState S T s) {p d : Nat} (hp : p < 4) (hd : I s 1 = (d : Int)) (hd1 : d < 16) : CL xs 81 [vr s, vi ((p : Nat) : Int), vi 0] (S, I, T, cc, zz) (FN none (S, up I s 1 ((bset d p : Nat) : Int), T, cc, zz)) := by
  refine CL_start (r := 0) (ls := [vr s, vi ((p : Nat) : Int), vi 0]) (rk_81 _) rfl ?_
  refine w_iln l_81_0 rfl ?_
  refine w_zeq 21 l_81_1 (by decide) (fun _ => ?_) (fun hx => absurd hx (by decide))
  refine w_aln l_81_21 rfl ?_
  refine w_dup l_81_22 rfl ?_
  refine w_gi ((d : Nat) : Int) l_81_23 (oState_sh h) hd ?_
  refine w_ic l_81_26 (by decide) ?_
  refine w_iln l_81_27 rfl ?_
  refine w_shl (((2 ^ p) : Nat) : Int) l_81_28 (shl1 p (by omega)) ?_
  refine w_or (((bset d p) : Nat) : Int) l_81_29 (set4 d hd1 p hp) ?_
  refine w_pi l_81_30 (oState_sh h) ?_
  refine w_vr l_81_33 ?_
  exact ⟨rfl, rfl⟩

theorem mx_82 : mxl 82 = 3 := by decide +kernel
theorem mt_82 : mtc 82 = 7 := by decide +kernel
theorem rk_82 (as : List AV) : rkA 82 as = 0 := rfl
theorem l_82_0 : look 82 0 = some (.aload_n 0, 1, 0, 0, 0, 0) := by decide +kernel
theorem l_82_1 : look 82 1 = some (.getfield 9, 3, 7, 2, 2, 575) := by decide +kernel
theorem l_82_4 : look 82 4 = some (.iload_n 1, 1, 0, 0, 0, 0) := by decide +kernel
theorem l_82_5 : look 82 5 = some (.iaload, 1, 0, 0, 0, 0) := by decide +kernel
theorem l_82_6 : look 82 6 = some (.iload_n 2, 1, 0, 0, 0, 0) := by decide +kernel
theorem l_82_7 : look 82 7 = some (.if_icmp .ge 5, 3, 0, 0, 0, 0) := by decide +kernel
theorem l_82_10 : look 82 10 = some (.iconst 0, 1, 0, 0, 0, 0) := by decide +kernel
theorem l_82_11 : look 82 11 = some (.ireturn, 1, 0, 0, 1, 0) := by decide +kernel
theorem l_82_12 : look 82 12 = some (.aload_n 0, 1, 0, 0, 0, 0) := by decide +kernel
theorem l_82_13 : look 82 13 = some (.getfield 9, 3, 7, 2, 2, 575) := by decide +kernel
theorem l_82_16 : look 82 16 = some (.iload_n 1, 1, 0, 0, 0, 0) := by decide +kernel
theorem l_82_17 : look 82 17 = some (.dup2, 1, 0, 0, 0, 0) := by decide +kernel
theorem l_82_18 : look 82 18 = some (.iaload, 1, 0, 0, 0, 0) := by decide +kernel
theorem l_82_19 : look 82 19 = some (.iload_n 2, 1, 0, 0, 0, 0) := by decide +kernel
theorem l_82_20 : look 82 20 = some (.isub, 1, 0, 0, 0, 0) := by decide +kernel
theorem l_82_21 : look 82 21 = some (.iastore, 1, 0, 0, 0, 0) := by decide +kernel
theorem l_82_22 : look 82 22 = some (.iconst 1, 1, 0, 0, 0, 0) := by decide +kernel
theorem l_82_23 : look 82 23 = some (.ireturn, 1, 0, 0, 1, 0) := by decide +kernel
theorem s_82 {I : Ix} (h : oState S T s) {p t z : Nat} (hp : p < 4) (ht : I (s + 1) p = (t : Int)) (ht1 : t ≤ 99) (hz : z ≤ 9) : CL xs 82 [vr s, vi ((p : Nat) : Int), vi ((z : Nat) : Int)] (S, I, T, cc, zz) (FN (some (vi (b2i (decide (z ≤ t))))) (S, if z ≤ t then up I (s + 1) p ((t - z : Nat) : Int) else I, T, cc, zz)) := by
  refine CL_start (r := 0) (ls := [vr s, vi ((p : Nat) : Int), vi ((z : Nat) : Int)]) (rk_82 _) rfl ?_
  refine w_aln l_82_0 rfl ?_
  refine w_gr l_82_1 (oState_sh h) (oState_r2 h) ?_
  refine w_iln l_82_4 rfl ?_
  refine w_ia p ((t : Nat) : Int) l_82_5 (oState_s2 h) rfl (by omega) ht ?_
  refine w_iln l_82_6 rfl ?_
  refine w_cge 12 l_82_7 (by decide) (fun h1 => ?_) (fun h1 => ?_)
  · skip
    refine w_aln l_82_12 rfl ?_
    refine w_gr l_82_13 (oState_sh h) (oState_r2 h) ?_
    refine w_iln l_82_16 rfl ?_
    refine w_dup2 l_82_17 rfl ?_
    refine w_ia p ((t : Nat) : Int) l_82_18 (oState_s2 h) rfl (by omega) ht ?_
    refine w_iln l_82_19 rfl ?_
    refine w_sub (((t - z) : Nat) : Int) l_82_20 (by unfold wr; omega) ?_
    refine w_iS p l_82_21 (oState_s2 h) rfl (by omega) ?_
    refine w_ic l_82_22 (by decide) ?_
    refine w_ir l_82_23 (by decide) ?_
    first
      | (rw [if_neg (by omega), show decide (z ≤ t) = false from decide_eq_false (by omega)]; exact ⟨rfl, rfl⟩)
      | (rw [if_pos (by omega), show decide (z ≤ t) = true from decide_eq_true (by omega)]; exact ⟨rfl, rfl⟩)
  · skip
    refine w_ic l_82_10 (by decide) ?_
    refine w_ir l_82_11 (by decide) ?_
    first
      | (rw [if_neg (by omega), show decide (z ≤ t) = false from decide_eq_false (by omega)]; exact ⟨rfl, rfl⟩)
      | (rw [if_pos (by omega), show decide (z ≤ t) = true from decide_eq_true (by omega)]; exact ⟨rfl, rfl⟩)

theorem mx_88 : mxl 88 = 3 := by decide +kernel
theorem mt_88 : mtc 88 = 7 := by decide +kernel
theorem rk_88 (as : List AV) : rkA 88 as = 0 := rfl
theorem l_88_0 : look 88 0 = some (.aload_n 0, 1, 0, 0, 0, 0) := by decide +kernel
theorem l_88_1 : look 88 1 = some (.getfield 27, 3, 7, 7, 2, 586) := by decide +kernel
theorem l_88_4 : look 88 4 = some (.iload_n 1, 1, 0, 0, 0, 0) := by decide +kernel
theorem l_88_5 : look 88 5 = some (.iload_n 2, 1, 0, 0, 0, 0) := by decide +kernel
theorem l_88_6 : look 88 6 = some (.iastore, 1, 0, 0, 0, 0) := by decide +kernel
theorem l_88_7 : look 88 7 = some (.aload_n 0, 1, 0, 0, 0, 0) := by decide +kernel
theorem l_88_8 : look 88 8 = some (.getfield 30, 3, 7, 8, 2, 587) := by decide +kernel
theorem l_88_11 : look 88 11 = some (.iload_n 1, 1, 0, 0, 0, 0) := by decide +kernel
theorem l_88_12 : look 88 12 = some (.aload_n 0, 1, 0, 0, 0, 0) := by decide +kernel
theorem l_88_13 : look 88 13 = some (.getfield 33, 3, 7, 0, 0, 571) := by decide +kernel
theorem l_88_16 : look 88 16 = some (.iastore, 1, 0, 0, 0, 0) := by decide +kernel
theorem l_88_17 : look 88 17 = some (.return_, 1, 0, 0, 0, 0) := by decide +kernel
theorem s_88 {I : Ix} (h : oState S T s) {a : Nat} {v : Int} (ha : a < 64) : CL xs 88 [vr s, vi ((a : Nat) : Int), vi v] (S, I, T, cc, zz) (FN none (S, up (up I (s + 6) a v) (s + 7) a (I s 0), T, cc, zz)) := by
  refine CL_start (r := 0) (ls := [vr s, vi ((a : Nat) : Int), vi v]) (rk_88 _) rfl ?_
  refine w_aln l_88_0 rfl ?_
  refine w_gr l_88_1 (oState_sh h) (oState_r7 h) ?_
  refine w_iln l_88_4 rfl ?_
  refine w_iln l_88_5 rfl ?_
  refine w_iS a l_88_6 (oState_s7 h) rfl (by omega) ?_
  refine w_aln l_88_7 rfl ?_
  refine w_gr l_88_8 (oState_sh h) (oState_r8 h) ?_
  refine w_iln l_88_11 rfl ?_
  refine w_aln l_88_12 rfl ?_
  refine w_gi (I s 0) l_88_13 (oState_sh h) ((up_no (by omega)).trans (rfl)) ?_
  refine w_iS a l_88_16 (oState_s8 h) rfl (by omega) ?_
  refine w_vr l_88_17 ?_
  exact ⟨rfl, rfl⟩

theorem mx_83 : mxl 83 = 3 := by decide +kernel
theorem mt_83 : mtc 83 = 7 := by decide +kernel
theorem rk_83 (as : List AV) : rkA 83 as = 0 := rfl
theorem l_83_0 : look 83 0 = some (.iconst 0, 1, 0, 0, 0, 0) := by decide +kernel
theorem l_83_1 : look 83 1 = some (.istore_n 1, 1, 0, 0, 0, 0) := by decide +kernel
theorem l_83_2 : look 83 2 = some (.iconst 0, 1, 0, 0, 0, 0) := by decide +kernel
theorem l_83_3 : look 83 3 = some (.istore_n 2, 1, 0, 0, 0, 0) := by decide +kernel
theorem l_83_4 : look 83 4 = some (.iload_n 2, 1, 0, 0, 0, 0) := by decide +kernel
theorem l_83_5 : look 83 5 = some (.iconst 4, 1, 0, 0, 0, 0) := by decide +kernel
theorem l_83_6 : look 83 6 = some (.if_icmp .ge 18, 3, 0, 0, 0, 0) := by decide +kernel
theorem l_83_9 : look 83 9 = some (.iload_n 1, 1, 0, 0, 0, 0) := by decide +kernel
theorem l_83_10 : look 83 10 = some (.aload_n 0, 1, 0, 0, 0, 0) := by decide +kernel
theorem l_83_11 : look 83 11 = some (.getfield 15, 3, 7, 3, 2, 577) := by decide +kernel
theorem l_83_14 : look 83 14 = some (.iload_n 2, 1, 0, 0, 0, 0) := by decide +kernel
theorem l_83_15 : look 83 15 = some (.iaload, 1, 0, 0, 0, 0) := by decide +kernel
theorem l_83_16 : look 83 16 = some (.iadd, 1, 0, 0, 0, 0) := by decide +kernel
theorem l_83_17 : look 83 17 = some (.istore_n 1, 1, 0, 0, 0, 0) := by decide +kernel
theorem l_83_18 : look 83 18 = some (.iinc 2 1, 3, 0, 0, 0, 0) := by decide +kernel
theorem l_83_21 : look 83 21 = some (.goto (-17), 3, 0, 0, 0, 0) := by decide +kernel
theorem l_83_24 : look 83 24 = some (.iload_n 1, 1, 0, 0, 0, 0) := by decide +kernel
theorem l_83_25 : look 83 25 = some (.ireturn, 1, 0, 0, 0, 0) := by decide +kernel
theorem s_83 {I : Ix} (h : oState S T s) {u0 u1 u2 u3 : Nat} (h0 : I (s + 2) 0 = (u0 : Int)) (h1 : I (s + 2) 1 = (u1 : Int)) (h2 : I (s + 2) 2 = (u2 : Int)) (h3 : I (s + 2) 3 = (u3 : Int)) (hu : u0 + u1 + u2 + u3 ≤ 10000) : CL xs 83 [vr s] (S, I, T, cc, zz) (FN (some (vi ((0 + u0 + u1 + u2 + u3 : Nat) : Int))) (S, I, T, cc, zz)) := by
  refine CL_start (r := 0) (ls := [vr s, vs 2, vs 2]) (rk_83 _) rfl ?_
  refine w_ic l_83_0 (by decide) ?_
  refine w_isn l_83_1 ⟨Nat.le_of_ble_eq_true rfl, rfl⟩ ?_
  refine w_ic l_83_2 (by decide) ?_
  refine w_isn l_83_3 ⟨Nat.le_of_ble_eq_true rfl, rfl⟩ ?_
  refine w_iln l_83_4 rfl ?_
  refine w_ic l_83_5 (by decide) ?_
  refine w_cge 24 l_83_6 (by decide) (fun hx => absurd hx (by decide)) (fun _ => ?_)
  refine w_iln l_83_9 rfl ?_
  refine w_aln l_83_10 rfl ?_
  refine w_gr l_83_11 (oState_sh h) (oState_r3 h) ?_
  refine w_iln l_83_14 rfl ?_
  refine w_ia 0 ((u0 : Nat) : Int) l_83_15 (oState_s3 h) rfl (by omega) h0 ?_
  refine w_add ((0 + u0 : Nat) : Int) l_83_16 (by unfold wr; omega) ?_
  refine w_isn l_83_17 ⟨Nat.le_of_ble_eq_true rfl, rfl⟩ ?_
  refine w_inc 1 l_83_18 rfl rfl (by unfold wr; omega) ?_
  refine w_go 4 l_83_21 (by decide) ?_
  refine w_iln l_83_4 rfl ?_
  refine w_ic l_83_5 (by decide) ?_
  refine w_cge 24 l_83_6 (by decide) (fun hx => absurd hx (by decide)) (fun _ => ?_)
  refine w_iln l_83_9 rfl ?_
  refine w_aln l_83_10 rfl ?_
  refine w_gr l_83_11 (oState_sh h) (oState_r3 h) ?_
  refine w_iln l_83_14 rfl ?_
  refine w_ia 1 ((u1 : Nat) : Int) l_83_15 (oState_s3 h) rfl (by omega) h1 ?_
  refine w_add ((0 + u0 + u1 : Nat) : Int) l_83_16 (by unfold wr; omega) ?_
  refine w_isn l_83_17 ⟨Nat.le_of_ble_eq_true rfl, rfl⟩ ?_
  refine w_inc 2 l_83_18 rfl rfl (by unfold wr; omega) ?_
  refine w_go 4 l_83_21 (by decide) ?_
  refine w_iln l_83_4 rfl ?_
  refine w_ic l_83_5 (by decide) ?_
  refine w_cge 24 l_83_6 (by decide) (fun hx => absurd hx (by decide)) (fun _ => ?_)
  refine w_iln l_83_9 rfl ?_
  refine w_aln l_83_10 rfl ?_
  refine w_gr l_83_11 (oState_sh h) (oState_r3 h) ?_
  refine w_iln l_83_14 rfl ?_
  refine w_ia 2 ((u2 : Nat) : Int) l_83_15 (oState_s3 h) rfl (by omega) h2 ?_
  refine w_add ((0 + u0 + u1 + u2 : Nat) : Int) l_83_16 (by unfold wr; omega) ?_
  refine w_isn l_83_17 ⟨Nat.le_of_ble_eq_true rfl, rfl⟩ ?_
  refine w_inc 3 l_83_18 rfl rfl (by unfold wr; omega) ?_
  refine w_go 4 l_83_21 (by decide) ?_
  refine w_iln l_83_4 rfl ?_
  refine w_ic l_83_5 (by decide) ?_
  refine w_cge 24 l_83_6 (by decide) (fun hx => absurd hx (by decide)) (fun _ => ?_)
  refine w_iln l_83_9 rfl ?_
  refine w_aln l_83_10 rfl ?_
  refine w_gr l_83_11 (oState_sh h) (oState_r3 h) ?_
  refine w_iln l_83_14 rfl ?_
  refine w_ia 3 ((u3 : Nat) : Int) l_83_15 (oState_s3 h) rfl (by omega) h3 ?_
  refine w_add ((0 + u0 + u1 + u2 + u3 : Nat) : Int) l_83_16 (by unfold wr; omega) ?_
  refine w_isn l_83_17 ⟨Nat.le_of_ble_eq_true rfl, rfl⟩ ?_
  refine w_inc 4 l_83_18 rfl rfl (by unfold wr; omega) ?_
  refine w_go 4 l_83_21 (by decide) ?_
  refine w_iln l_83_4 rfl ?_
  refine w_ic l_83_5 (by decide) ?_
  refine w_cge 24 l_83_6 (by decide) (fun _ => ?_) (fun hx => absurd hx (by decide))
  refine w_iln l_83_24 rfl ?_
  refine w_ir l_83_25 (Or.inl rfl) ?_
  exact ⟨rfl, rfl⟩

theorem mx_78 : mxl 78 = 3 := by decide +kernel
theorem mt_78 : mtc 78 = 7 := by decide +kernel
theorem rk_78 (as : List AV) : rkA 78 as = 1 := rfl
theorem l_78_0 : look 78 0 = some (.aload_n 0, 1, 0, 0, 0, 0) := by decide +kernel
theorem l_78_1 : look 78 1 = some (.iconst 0, 1, 0, 0, 0, 0) := by decide +kernel
theorem l_78_2 : look 78 2 = some (.putfield 33, 3, 7, 0, 0, 571) := by decide +kernel
theorem l_78_5 : look 78 5 = some (.aload_n 0, 1, 0, 0, 0, 0) := by decide +kernel
theorem l_78_6 : look 78 6 = some (.iconst 0, 1, 0, 0, 0, 0) := by decide +kernel
theorem l_78_7 : look 78 7 = some (.putfield 37, 3, 7, 1, 0, 574) := by decide +kernel
theorem l_78_10 : look 78 10 = some (.iconst 0, 1, 0, 0, 0, 0) := by decide +kernel
theorem l_78_11 : look 78 11 = some (.istore_n 2, 1, 0, 0, 0, 0) := by decide +kernel
theorem l_78_12 : look 78 12 = some (.iload_n 2, 1, 0, 0, 0, 0) := by decide +kernel
theorem l_78_13 : look 78 13 = some (.iconst 4, 1, 0, 0, 0, 0) := by decide +kernel
theorem l_78_14 : look 78 14 = some (.if_icmp .ge 35, 3, 0, 0, 0, 0) := by decide +kernel
theorem l_78_17 : look 78 17 = some (.aload_n 0, 1, 0, 0, 0, 0) := by decide +kernel
theorem l_78_18 : look 78 18 = some (.getfield 9, 3, 7, 2, 2, 575) := by decide +kernel
theorem l_78_21 : look 78 21 = some (.iload_n 2, 1, 0, 0, 0, 0) := by decide +kernel
theorem l_78_22 : look 78 22 = some (.aload_n 1, 1, 0, 0, 0, 0) := by decide +kernel
theorem l_78_23 : look 78 23 = some (.getfield 40, 3, 1, 4, 2, 391) := by decide +kernel
theorem l_78_26 : look 78 26 = some (.iload_n 2, 1, 0, 0, 0, 0) := by decide +kernel
theorem l_78_27 : look 78 27 = some (.iaload, 1, 0, 0, 0, 0) := by decide +kernel
theorem l_78_28 : look 78 28 = some (.iastore, 1, 0, 0, 0, 0) := by decide +kernel
theorem l_78_29 : look 78 29 = some (.aload_n 0, 1, 0, 0, 0, 0) := by decide +kernel
theorem l_78_30 : look 78 30 = some (.getfield 15, 3, 7, 3, 2, 577) := by decide +kernel
theorem l_78_33 : look 78 33 = some (.iload_n 2, 1, 0, 0, 0, 0) := by decide +kernel
theorem l_78_34 : look 78 34 = some (.iconst 0, 1, 0, 0, 0, 0) := by decide +kernel
theorem l_78_35 : look 78 35 = some (.iastore, 1, 0, 0, 0, 0) := by decide +kernel
theorem l_78_36 : look 78 36 = some (.aload_n 0, 1, 0, 0, 0, 0) := by decide +kernel
theorem l_78_37 : look 78 37 = some (.getfield 18, 3, 7, 4, 2, 581) := by decide +kernel
theorem l_78_40 : look 78 40 = some (.iload_n 2, 1, 0, 0, 0, 0) := by decide +kernel
theorem l_78_41 : look 78 41 = some (.iconst 0, 1, 0, 0, 0, 0) := by decide +kernel
theorem l_78_42 : look 78 42 = some (.iastore, 1, 0, 0, 0, 0) := by decide +kernel
theorem l_78_43 : look 78 43 = some (.iinc 2 1, 3, 0, 0, 0, 0) := by decide +kernel
theorem l_78_46 : look 78 46 = some (.goto (-34), 3, 0, 0, 0, 0) := by decide +kernel
theorem l_78_49 : look 78 49 = some (.aload_n 0, 1, 0, 0, 0, 0) := by decide +kernel
theorem l_78_50 : look 78 50 = some (.getfield 27, 3, 7, 7, 2, 586) := by decide +kernel
theorem l_78_53 : look 78 53 = some (.iconst (-1), 1, 0, 0, 0, 0) := by decide +kernel
theorem l_78_54 : look 78 54 = some (.invokestatic 45, 3, 305, 2, 1, 713) := by decide +kernel
theorem l_78_57 : look 78 57 = some (.return_, 1, 0, 0, 0, 0) := by decide +kernel
theorem s_78 {I : Ix} (h : oState S T s) {l : Nat} (hl : oLimits S T l) (hsl : l + 4 < s ∨ s + 7 < l) : CL xs 78 [vr s, vr l] (S, I, T, cc, zz) (FN none (S, fl (up (up (up (up (up (up (up (up (up (up (up (up (up (up I s 0 0) s 1 0) (s + 1) 0 (I (l + 4) 0)) (s + 2) 0 0) (s + 3) 0 0) (s + 1) 1 (I (l + 4) 1)) (s + 2) 1 0) (s + 3) 1 0) (s + 1) 2 (I (l + 4) 2)) (s + 2) 2 0) (s + 3) 2 0) (s + 1) 3 (I (l + 4) 3)) (s + 2) 3 0) (s + 3) 3 0) (s + 6) 64 (-1), T, cc, zz)) := by
  refine CL_start (r := 1) (ls := [vr s, vr l, vs 2]) (rk_78 _) rfl ?_
  refine w_aln l_78_0 rfl ?_
  refine w_ic l_78_1 (by decide) ?_
  refine w_pi l_78_2 (oState_sh h) ?_
  refine w_aln l_78_5 rfl ?_
  refine w_ic l_78_6 (by decide) ?_
  refine w_pi l_78_7 (oState_sh h) ?_
  refine w_ic l_78_10 (by decide) ?_
  refine w_isn l_78_11 ⟨Nat.le_of_ble_eq_true rfl, rfl⟩ ?_
  refine w_iln l_78_12 rfl ?_
  refine w_ic l_78_13 (by decide) ?_
  refine w_cge 49 l_78_14 (by decide) (fun hx => absurd hx (by decide)) (fun _ => ?_)
  refine w_aln l_78_17 rfl ?_
  refine w_gr l_78_18 (oState_sh h) (oState_r2 h) ?_
  refine w_iln l_78_21 rfl ?_
  refine w_aln l_78_22 rfl ?_
  refine w_gr l_78_23 (oLimits_sh hl) (oLimits_r4 hl) ?_
  refine w_iln l_78_26 rfl ?_
  refine w_ia 0 (I (l + 4) 0) l_78_27 (oLimits_s4 hl) rfl (by omega) ((up_no (by omega)).trans ((up_no (by omega)).trans (rfl))) ?_
  refine w_iS 0 l_78_28 (oState_s2 h) rfl (by omega) ?_
  refine w_aln l_78_29 rfl ?_
  refine w_gr l_78_30 (oState_sh h) (oState_r3 h) ?_
  refine w_iln l_78_33 rfl ?_
  refine w_ic l_78_34 (by decide) ?_
  refine w_iS 0 l_78_35 (oState_s3 h) rfl (by omega) ?_
  refine w_aln l_78_36 rfl ?_
  refine w_gr l_78_37 (oState_sh h) (oState_r4 h) ?_
  refine w_iln l_78_40 rfl ?_
  refine w_ic l_78_41 (by decide) ?_
  refine w_iS 0 l_78_42 (oState_s4 h) rfl (by omega) ?_
  refine w_inc 1 l_78_43 rfl rfl (by unfold wr; omega) ?_
  refine w_go 12 l_78_46 (by decide) ?_
  refine w_iln l_78_12 rfl ?_
  refine w_ic l_78_13 (by decide) ?_
  refine w_cge 49 l_78_14 (by decide) (fun hx => absurd hx (by decide)) (fun _ => ?_)
  refine w_aln l_78_17 rfl ?_
  refine w_gr l_78_18 (oState_sh h) (oState_r2 h) ?_
  refine w_iln l_78_21 rfl ?_
  refine w_aln l_78_22 rfl ?_
  refine w_gr l_78_23 (oLimits_sh hl) (oLimits_r4 hl) ?_
  refine w_iln l_78_26 rfl ?_
  refine w_ia 1 (I (l + 4) 1) l_78_27 (oLimits_s4 hl) rfl (by omega) ((up_no (by omega)).trans ((up_no (by omega)).trans ((up_no (by omega)).trans ((up_no (by omega)).trans ((up_no (by omega)).trans (rfl)))))) ?_
  refine w_iS 1 l_78_28 (oState_s2 h) rfl (by omega) ?_
  refine w_aln l_78_29 rfl ?_
  refine w_gr l_78_30 (oState_sh h) (oState_r3 h) ?_
  refine w_iln l_78_33 rfl ?_
  refine w_ic l_78_34 (by decide) ?_
  refine w_iS 1 l_78_35 (oState_s3 h) rfl (by omega) ?_
  refine w_aln l_78_36 rfl ?_
  refine w_gr l_78_37 (oState_sh h) (oState_r4 h) ?_
  refine w_iln l_78_40 rfl ?_
  refine w_ic l_78_41 (by decide) ?_
  refine w_iS 1 l_78_42 (oState_s4 h) rfl (by omega) ?_
  refine w_inc 2 l_78_43 rfl rfl (by unfold wr; omega) ?_
  refine w_go 12 l_78_46 (by decide) ?_
  refine w_iln l_78_12 rfl ?_
  refine w_ic l_78_13 (by decide) ?_
  refine w_cge 49 l_78_14 (by decide) (fun hx => absurd hx (by decide)) (fun _ => ?_)
  refine w_aln l_78_17 rfl ?_
  refine w_gr l_78_18 (oState_sh h) (oState_r2 h) ?_
  refine w_iln l_78_21 rfl ?_
  refine w_aln l_78_22 rfl ?_
  refine w_gr l_78_23 (oLimits_sh hl) (oLimits_r4 hl) ?_
  refine w_iln l_78_26 rfl ?_
  refine w_ia 2 (I (l + 4) 2) l_78_27 (oLimits_s4 hl) rfl (by omega) ((up_no (by omega)).trans ((up_no (by omega)).trans ((up_no (by omega)).trans ((up_no (by omega)).trans ((up_no (by omega)).trans ((up_no (by omega)).trans ((up_no (by omega)).trans ((up_no (by omega)).trans (rfl))))))))) ?_
  refine w_iS 2 l_78_28 (oState_s2 h) rfl (by omega) ?_
  refine w_aln l_78_29 rfl ?_
  refine w_gr l_78_30 (oState_sh h) (oState_r3 h) ?_
  refine w_iln l_78_33 rfl ?_
  refine w_ic l_78_34 (by decide) ?_
  refine w_iS 2 l_78_35 (oState_s3 h) rfl (by omega) ?_
  refine w_aln l_78_36 rfl ?_
  refine w_gr l_78_37 (oState_sh h) (oState_r4 h) ?_
  refine w_iln l_78_40 rfl ?_
  refine w_ic l_78_41 (by decide) ?_
  refine w_iS 2 l_78_42 (oState_s4 h) rfl (by omega) ?_
  refine w_inc 3 l_78_43 rfl rfl (by unfold wr; omega) ?_
  refine w_go 12 l_78_46 (by decide) ?_
  refine w_iln l_78_12 rfl ?_
  refine w_ic l_78_13 (by decide) ?_
  refine w_cge 49 l_78_14 (by decide) (fun hx => absurd hx (by decide)) (fun _ => ?_)
  refine w_aln l_78_17 rfl ?_
  refine w_gr l_78_18 (oState_sh h) (oState_r2 h) ?_
  refine w_iln l_78_21 rfl ?_
  refine w_aln l_78_22 rfl ?_
  refine w_gr l_78_23 (oLimits_sh hl) (oLimits_r4 hl) ?_
  refine w_iln l_78_26 rfl ?_
  refine w_ia 3 (I (l + 4) 3) l_78_27 (oLimits_s4 hl) rfl (by omega) ((up_no (by omega)).trans ((up_no (by omega)).trans ((up_no (by omega)).trans ((up_no (by omega)).trans ((up_no (by omega)).trans ((up_no (by omega)).trans ((up_no (by omega)).trans ((up_no (by omega)).trans ((up_no (by omega)).trans ((up_no (by omega)).trans ((up_no (by omega)).trans (rfl)))))))))))) ?_
  refine w_iS 3 l_78_28 (oState_s2 h) rfl (by omega) ?_
  refine w_aln l_78_29 rfl ?_
  refine w_gr l_78_30 (oState_sh h) (oState_r3 h) ?_
  refine w_iln l_78_33 rfl ?_
  refine w_ic l_78_34 (by decide) ?_
  refine w_iS 3 l_78_35 (oState_s3 h) rfl (by omega) ?_
  refine w_aln l_78_36 rfl ?_
  refine w_gr l_78_37 (oState_sh h) (oState_r4 h) ?_
  refine w_iln l_78_40 rfl ?_
  refine w_ic l_78_41 (by decide) ?_
  refine w_iS 3 l_78_42 (oState_s4 h) rfl (by omega) ?_
  refine w_inc 4 l_78_43 rfl rfl (by unfold wr; omega) ?_
  refine w_go 12 l_78_46 (by decide) ?_
  refine w_iln l_78_12 rfl ?_
  refine w_ic l_78_13 (by decide) ?_
  refine w_cge 49 l_78_14 (by decide) (fun _ => ?_) (fun hx => absurd hx (by decide))
  refine w_aln l_78_49 rfl ?_
  refine w_gr l_78_50 (oState_sh h) (oState_r7 h) ?_
  refine w_ic l_78_53 (by decide) ?_
  refine q_st [vr (s + 6), vi (-1)] [] l_78_54 (by decide) rfl rfl (Nat.le_of_ble_eq_true rfl) (by rw [mx_305]; exact Nat.le_of_ble_eq_true rfl) (by rw [rk_305]; decide) (s_305 (oState_s7 h) (by decide)) ?_
  refine w_vr l_78_57 ?_
  exact ⟨rfl, rfl⟩

theorem mx_79 : mxl 79 = 4 := by decide +kernel
theorem mt_79 : mtc 79 = 7 := by decide +kernel
theorem rk_79 (as : List AV) : rkA 79 as = 0 := rfl
theorem l_79_0 : look 79 0 = some (.aload_n 0, 1, 0, 0, 0, 0) := by decide +kernel
theorem l_79_1 : look 79 1 = some (.aload_n 1, 1, 0, 0, 0, 0) := by decide +kernel
theorem l_79_2 : look 79 2 = some (.getfield 33, 3, 7, 0, 0, 571) := by decide +kernel
theorem l_79_5 : look 79 5 = some (.putfield 33, 3, 7, 0, 0, 571) := by decide +kernel
theorem l_79_8 : look 79 8 = some (.aload_n 0, 1, 0, 0, 0, 0) := by decide +kernel
theorem l_79_9 : look 79 9 = some (.aload_n 1, 1, 0, 0, 0, 0) := by decide +kernel
theorem l_79_10 : look 79 10 = some (.getfield 37, 3, 7, 1, 0, 574) := by decide +kernel
theorem l_79_13 : look 79 13 = some (.putfield 37, 3, 7, 1, 0, 574) := by decide +kernel
theorem l_79_16 : look 79 16 = some (.aload_n 1, 1, 0, 0, 0, 0) := by decide +kernel
theorem l_79_17 : look 79 17 = some (.getfield 9, 3, 7, 2, 2, 575) := by decide +kernel
theorem l_79_20 : look 79 20 = some (.iconst 0, 1, 0, 0, 0, 0) := by decide +kernel
theorem l_79_21 : look 79 21 = some (.aload_n 0, 1, 0, 0, 0, 0) := by decide +kernel
theorem l_79_22 : look 79 22 = some (.getfield 9, 3, 7, 2, 2, 575) := by decide +kernel
theorem l_79_25 : look 79 25 = some (.iconst 0, 1, 0, 0, 0, 0) := by decide +kernel
theorem l_79_26 : look 79 26 = some (.iconst 4, 1, 0, 0, 0, 0) := by decide +kernel
theorem l_79_27 : look 79 27 = some (.invokestatic 51, 3, 0, 5, 6, 723) := by decide +kernel
theorem l_79_30 : look 79 30 = some (.aload_n 1, 1, 0, 0, 0, 0) := by decide +kernel
theorem l_79_31 : look 79 31 = some (.getfield 15, 3, 7, 3, 2, 577) := by decide +kernel
theorem l_79_34 : look 79 34 = some (.iconst 0, 1, 0, 0, 0, 0) := by decide +kernel
theorem l_79_35 : look 79 35 = some (.aload_n 0, 1, 0, 0, 0, 0) := by decide +kernel
theorem l_79_36 : look 79 36 = some (.getfield 15, 3, 7, 3, 2, 577) := by decide +kernel
theorem l_79_39 : look 79 39 = some (.iconst 0, 1, 0, 0, 0, 0) := by decide +kernel
theorem l_79_40 : look 79 40 = some (.iconst 4, 1, 0, 0, 0, 0) := by decide +kernel
theorem l_79_41 : look 79 41 = some (.invokestatic 51, 3, 0, 5, 6, 723) := by decide +kernel
theorem l_79_44 : look 79 44 = some (.aload_n 1, 1, 0, 0, 0, 0) := by decide +kernel
theorem l_79_45 : look 79 45 = some (.getfield 18, 3, 7, 4, 2, 581) := by decide +kernel
theorem l_79_48 : look 79 48 = some (.iconst 0, 1, 0, 0, 0, 0) := by decide +kernel
theorem l_79_49 : look 79 49 = some (.aload_n 0, 1, 0, 0, 0, 0) := by decide +kernel
theorem l_79_50 : look 79 50 = some (.getfield 18, 3, 7, 4, 2, 581) := by decide +kernel
theorem l_79_53 : look 79 53 = some (.iconst 0, 1, 0, 0, 0, 0) := by decide +kernel
theorem l_79_54 : look 79 54 = some (.iconst 4, 1, 0, 0, 0, 0) := by decide +kernel
theorem l_79_55 : look 79 55 = some (.invokestatic 51, 3, 0, 5, 6, 723) := by decide +kernel
theorem l_79_58 : look 79 58 = some (.iconst 0, 1, 0, 0, 0, 0) := by decide +kernel
theorem l_79_59 : look 79 59 = some (.istore_n 2, 1, 0, 0, 0, 0) := by decide +kernel
theorem l_79_60 : look 79 60 = some (.iload_n 2, 1, 0, 0, 0, 0) := by decide +kernel
theorem l_79_61 : look 79 61 = some (.iconst 4, 1, 0, 0, 0, 0) := by decide +kernel
theorem l_79_62 : look 79 62 = some (.if_icmp .ge 52, 3, 0, 0, 0, 0) := by decide +kernel
theorem l_79_65 : look 79 65 = some (.iload_n 2, 1, 0, 0, 0, 0) := by decide +kernel
theorem l_79_66 : look 79 66 = some (.bipush 120, 2, 0, 0, 0, 0) := by decide +kernel
theorem l_79_68 : look 79 68 = some (.imul, 1, 0, 0, 0, 0) := by decide +kernel
theorem l_79_69 : look 79 69 = some (.istore_n 3, 1, 0, 0, 0, 0) := by decide +kernel
theorem l_79_70 : look 79 70 = some (.aload_n 1, 1, 0, 0, 0, 0) := by decide +kernel
theorem l_79_71 : look 79 71 = some (.getfield 21, 3, 7, 5, 2, 584) := by decide +kernel
theorem l_79_74 : look 79 74 = some (.iload_n 3, 1, 0, 0, 0, 0) := by decide +kernel
theorem l_79_75 : look 79 75 = some (.aload_n 0, 1, 0, 0, 0, 0) := by decide +kernel
theorem l_79_76 : look 79 76 = some (.getfield 21, 3, 7, 5, 2, 584) := by decide +kernel
theorem l_79_79 : look 79 79 = some (.iload_n 3, 1, 0, 0, 0, 0) := by decide +kernel
theorem l_79_80 : look 79 80 = some (.aload_n 0, 1, 0, 0, 0, 0) := by decide +kernel
theorem l_79_81 : look 79 81 = some (.getfield 18, 3, 7, 4, 2, 581) := by decide +kernel
theorem l_79_84 : look 79 84 = some (.iload_n 2, 1, 0, 0, 0, 0) := by decide +kernel
theorem l_79_85 : look 79 85 = some (.iaload, 1, 0, 0, 0, 0) := by decide +kernel
theorem l_79_86 : look 79 86 = some (.invokestatic 51, 3, 0, 5, 6, 723) := by decide +kernel
theorem l_79_89 : look 79 89 = some (.aload_n 1, 1, 0, 0, 0, 0) := by decide +kernel
theorem l_79_90 : look 79 90 = some (.getfield 24, 3, 7, 6, 2, 585) := by decide +kernel
theorem l_79_93 : look 79 93 = some (.iload_n 3, 1, 0, 0, 0, 0) := by decide +kernel
theorem l_79_94 : look 79 94 = some (.aload_n 0, 1, 0, 0, 0, 0) := by decide +kernel
theorem l_79_95 : look 79 95 = some (.getfield 24, 3, 7, 6, 2, 585) := by decide +kernel
theorem l_79_98 : look 79 98 = some (.iload_n 3, 1, 0, 0, 0, 0) := by decide +kernel
theorem l_79_99 : look 79 99 = some (.aload_n 0, 1, 0, 0, 0, 0) := by decide +kernel
theorem l_79_100 : look 79 100 = some (.getfield 18, 3, 7, 4, 2, 581) := by decide +kernel
theorem l_79_103 : look 79 103 = some (.iload_n 2, 1, 0, 0, 0, 0) := by decide +kernel
theorem l_79_104 : look 79 104 = some (.iaload, 1, 0, 0, 0, 0) := by decide +kernel
theorem l_79_105 : look 79 105 = some (.invokestatic 51, 3, 0, 5, 6, 723) := by decide +kernel
theorem l_79_108 : look 79 108 = some (.iinc 2 1, 3, 0, 0, 0, 0) := by decide +kernel
theorem l_79_111 : look 79 111 = some (.goto (-51), 3, 0, 0, 0, 0) := by decide +kernel
theorem l_79_114 : look 79 114 = some (.aload_n 1, 1, 0, 0, 0, 0) := by decide +kernel
theorem l_79_115 : look 79 115 = some (.getfield 27, 3, 7, 7, 2, 586) := by decide +kernel
theorem l_79_118 : look 79 118 = some (.iconst 0, 1, 0, 0, 0, 0) := by decide +kernel
theorem l_79_119 : look 79 119 = some (.aload_n 0, 1, 0, 0, 0, 0) := by decide +kernel
theorem l_79_120 : look 79 120 = some (.getfield 27, 3, 7, 7, 2, 586) := by decide +kernel
theorem l_79_123 : look 79 123 = some (.iconst 0, 1, 0, 0, 0, 0) := by decide +kernel
theorem l_79_124 : look 79 124 = some (.bipush 64, 2, 0, 0, 0, 0) := by decide +kernel
theorem l_79_126 : look 79 126 = some (.invokestatic 51, 3, 0, 5, 6, 723) := by decide +kernel
theorem l_79_129 : look 79 129 = some (.aload_n 1, 1, 0, 0, 0, 0) := by decide +kernel
theorem l_79_130 : look 79 130 = some (.getfield 30, 3, 7, 8, 2, 587) := by decide +kernel
theorem l_79_133 : look 79 133 = some (.iconst 0, 1, 0, 0, 0, 0) := by decide +kernel
theorem l_79_134 : look 79 134 = some (.aload_n 0, 1, 0, 0, 0, 0) := by decide +kernel
theorem l_79_135 : look 79 135 = some (.getfield 30, 3, 7, 8, 2, 587) := by decide +kernel
theorem l_79_138 : look 79 138 = some (.iconst 0, 1, 0, 0, 0, 0) := by decide +kernel
theorem l_79_139 : look 79 139 = some (.bipush 64, 2, 0, 0, 0, 0) := by decide +kernel
theorem l_79_141 : look 79 141 = some (.invokestatic 51, 3, 0, 5, 6, 723) := by decide +kernel
theorem l_79_144 : look 79 144 = some (.return_, 1, 0, 0, 0, 0) := by decide +kernel
theorem s_79 {I : Ix} (h : oState S T s) {x n0 n1 n2 n3 : Nat} (hx : oState S T x) (hsx : x + 7 < s ∨ s + 7 < x) (h0 : I (x + 3) 0 = (n0 : Int)) (h1 : I (x + 3) 1 = (n1 : Int)) (h2 : I (x + 3) 2 = (n2 : Int)) (h3 : I (x + 3) 3 = (n3 : Int)) (hn0 : n0 ≤ 120) (hn1 : n1 ≤ 120) (hn2 : n2 ≤ 120) (hn3 : n3 ≤ 120) : CL xs 79 [vr s, vr x] (S, I, T, cc, zz) (FN none (S, cpy (cpy (cpy (cpy (cpy (cpy (cpy (cpy (cpy (cpy (cpy (cpy (cpy (up (up I s 0 (I x 0)) s 1 (I x 1)) (x + 1) 0 (s + 1) 0 4) (x + 2) 0 (s + 2) 0 4) (x + 3) 0 (s + 3) 0 4) (x + 4) 0 (s + 4) 0 n0) (x + 5) 0 (s + 5) 0 n0) (x + 4) 120 (s + 4) 120 n1) (x + 5) 120 (s + 5) 120 n1) (x + 4) 240 (s + 4) 240 n2) (x + 5) 240 (s + 5) 240 n2) (x + 4) 360 (s + 4) 360 n3) (x + 5) 360 (s + 5) 360 n3) (x + 6) 0 (s + 6) 0 64) (x + 7) 0 (s + 7) 0 64, T, cc, zz)) := by
  refine CL_start (r := 0) (ls := [vr s, vr x, vs 2, vs 2]) (rk_79 _) rfl ?_
  refine w_aln l_79_0 rfl ?_
  refine w_aln l_79_1 rfl ?_
  refine w_gi (I x 0) l_79_2 (oState_sh hx) rfl ?_
  refine w_pi l_79_5 (oState_sh h) ?_
  refine w_aln l_79_8 rfl ?_
  refine w_aln l_79_9 rfl ?_
  refine w_gi (I x 1) l_79_10 (oState_sh hx) ((up_no (by omega)).trans (rfl)) ?_
  refine w_pi l_79_13 (oState_sh h) ?_
  refine w_aln l_79_16 rfl ?_
  refine w_gr l_79_17 (oState_sh hx) (oState_r2 hx) ?_
  refine w_ic l_79_20 (by decide) ?_
  refine w_aln l_79_21 rfl ?_
  refine w_gr l_79_22 (oState_sh h) (oState_r2 h) ?_
  refine w_ic l_79_25 (by decide) ?_
  refine w_ic l_79_26 (by decide) ?_
  refine w_cp 0 0 4 l_79_27 (oState_s2 hx) (oState_s2 h) (by decide) rfl rfl rfl (by omega) (by omega) (by decide) ?_
  refine w_aln l_79_30 rfl ?_
  refine w_gr l_79_31 (oState_sh hx) (oState_r3 hx) ?_
  refine w_ic l_79_34 (by decide) ?_
  refine w_aln l_79_35 rfl ?_
  refine w_gr l_79_36 (oState_sh h) (oState_r3 h) ?_
  refine w_ic l_79_39 (by decide) ?_
  refine w_ic l_79_40 (by decide) ?_
  refine w_cp 0 0 4 l_79_41 (oState_s3 hx) (oState_s3 h) (by decide) rfl rfl rfl (by omega) (by omega) (by decide) ?_
  refine w_aln l_79_44 rfl ?_
  refine w_gr l_79_45 (oState_sh hx) (oState_r4 hx) ?_
  refine w_ic l_79_48 (by decide) ?_
  refine w_aln l_79_49 rfl ?_
  refine w_gr l_79_50 (oState_sh h) (oState_r4 h) ?_
  refine w_ic l_79_53 (by decide) ?_
  refine w_ic l_79_54 (by decide) ?_
  refine w_cp 0 0 4 l_79_55 (oState_s4 hx) (oState_s4 h) (by decide) rfl rfl rfl (by omega) (by omega) (by decide) ?_
  refine w_ic l_79_58 (by decide) ?_
  refine w_isn l_79_59 ⟨Nat.le_of_ble_eq_true rfl, rfl⟩ ?_
  refine w_iln l_79_60 rfl ?_
  refine w_ic l_79_61 (by decide) ?_
  refine w_cge 114 l_79_62 (by decide) (fun hx => absurd hx (by decide)) (fun _ => ?_)
  refine w_iln l_79_65 rfl ?_
  refine w_bp l_79_66 (by decide) ?_
  refine w_mul 0 l_79_68 (by decide) ?_
  refine w_isn l_79_69 ⟨Nat.le_of_ble_eq_true rfl, rfl⟩ ?_
  refine w_aln l_79_70 rfl ?_
  refine w_gr l_79_71 (oState_sh hx) (oState_r5 hx) ?_
  refine w_iln l_79_74 rfl ?_
  refine w_aln l_79_75 rfl ?_
  refine w_gr l_79_76 (oState_sh h) (oState_r5 h) ?_
  refine w_iln l_79_79 rfl ?_
  refine w_aln l_79_80 rfl ?_
  refine w_gr l_79_81 (oState_sh h) (oState_r4 h) ?_
  refine w_iln l_79_84 rfl ?_
  refine w_ia 0 ((n0 : Nat) : Int) l_79_85 (oState_s4 h) rfl (by omega) ((cpy_in (by decide) (by decide)).trans ((cpy_no (by omega)).trans ((cpy_no (by omega)).trans ((up_no (by omega)).trans ((up_no (by omega)).trans (h0)))))) ?_
  refine w_cp 0 0 n0 l_79_86 (oState_s5 hx) (oState_s5 h) (by decide) rfl rfl rfl (by omega) (by omega) (by decide) ?_
  refine w_aln l_79_89 rfl ?_
  refine w_gr l_79_90 (oState_sh hx) (oState_r6 hx) ?_
  refine w_iln l_79_93 rfl ?_
  refine w_aln l_79_94 rfl ?_
  refine w_gr l_79_95 (oState_sh h) (oState_r6 h) ?_
  refine w_iln l_79_98 rfl ?_
  refine w_aln l_79_99 rfl ?_
  refine w_gr l_79_100 (oState_sh h) (oState_r4 h) ?_
  refine w_iln l_79_103 rfl ?_
  refine w_ia 0 ((n0 : Nat) : Int) l_79_104 (oState_s4 h) rfl (by omega) ((cpy_no (by omega)).trans (((cpy_in (by decide) (by decide)).trans ((cpy_no (by omega)).trans ((cpy_no (by omega)).trans ((up_no (by omega)).trans ((up_no (by omega)).trans (h0)))))))) ?_
  refine w_cp 0 0 n0 l_79_105 (oState_s6 hx) (oState_s6 h) (by decide) rfl rfl rfl (by omega) (by omega) (by decide) ?_
  refine w_inc 1 l_79_108 rfl rfl (by unfold wr; omega) ?_
  refine w_go 60 l_79_111 (by decide) ?_
  refine w_iln l_79_60 rfl ?_
  refine w_ic l_79_61 (by decide) ?_
  refine w_cge 114 l_79_62 (by decide) (fun hx => absurd hx (by decide)) (fun _ => ?_)
  refine w_iln l_79_65 rfl ?_
  refine w_bp l_79_66 (by decide) ?_
  refine w_mul 120 l_79_68 (by decide) ?_
  refine w_isn l_79_69 ⟨Nat.le_of_ble_eq_true rfl, rfl⟩ ?_
  refine w_aln l_79_70 rfl ?_
  refine w_gr l_79_71 (oState_sh hx) (oState_r5 hx) ?_
  refine w_iln l_79_74 rfl ?_
  refine w_aln l_79_75 rfl ?_
  refine w_gr l_79_76 (oState_sh h) (oState_r5 h) ?_
  refine w_iln l_79_79 rfl ?_
  refine w_aln l_79_80 rfl ?_
  refine w_gr l_79_81 (oState_sh h) (oState_r4 h) ?_
  refine w_iln l_79_84 rfl ?_
  refine w_ia 1 ((n1 : Nat) : Int) l_79_85 (oState_s4 h) rfl (by omega) ((cpy_no (by omega)).trans ((cpy_no (by omega)).trans (((cpy_in (by decide) (by decide)).trans ((cpy_no (by omega)).trans ((cpy_no (by omega)).trans ((up_no (by omega)).trans ((up_no (by omega)).trans (h1))))))))) ?_
  refine w_cp 120 120 n1 l_79_86 (oState_s5 hx) (oState_s5 h) (by decide) rfl rfl rfl (by omega) (by omega) (by decide) ?_
  refine w_aln l_79_89 rfl ?_
  refine w_gr l_79_90 (oState_sh hx) (oState_r6 hx) ?_
  refine w_iln l_79_93 rfl ?_
  refine w_aln l_79_94 rfl ?_
  refine w_gr l_79_95 (oState_sh h) (oState_r6 h) ?_
  refine w_iln l_79_98 rfl ?_
  refine w_aln l_79_99 rfl ?_
  refine w_gr l_79_100 (oState_sh h) (oState_r4 h) ?_
  refine w_iln l_79_103 rfl ?_
  refine w_ia 1 ((n1 : Nat) : Int) l_79_104 (oState_s4 h) rfl (by omega) ((cpy_no (by omega)).trans ((cpy_no (by omega)).trans ((cpy_no (by omega)).trans (((cpy_in (by decide) (by decide)).trans ((cpy_no (by omega)).trans ((cpy_no (by omega)).trans ((up_no (by omega)).trans ((up_no (by omega)).trans (h1)))))))))) ?_
  refine w_cp 120 120 n1 l_79_105 (oState_s6 hx) (oState_s6 h) (by decide) rfl rfl rfl (by omega) (by omega) (by decide) ?_
  refine w_inc 2 l_79_108 rfl rfl (by unfold wr; omega) ?_
  refine w_go 60 l_79_111 (by decide) ?_
  refine w_iln l_79_60 rfl ?_
  refine w_ic l_79_61 (by decide) ?_
  refine w_cge 114 l_79_62 (by decide) (fun hx => absurd hx (by decide)) (fun _ => ?_)
  refine w_iln l_79_65 rfl ?_
  refine w_bp l_79_66 (by decide) ?_
  refine w_mul 240 l_79_68 (by decide) ?_
  refine w_isn l_79_69 ⟨Nat.le_of_ble_eq_true rfl, rfl⟩ ?_
  refine w_aln l_79_70 rfl ?_
  refine w_gr l_79_71 (oState_sh hx) (oState_r5 hx) ?_
  refine w_iln l_79_74 rfl ?_
  refine w_aln l_79_75 rfl ?_
  refine w_gr l_79_76 (oState_sh h) (oState_r5 h) ?_
  refine w_iln l_79_79 rfl ?_
  refine w_aln l_79_80 rfl ?_
  refine w_gr l_79_81 (oState_sh h) (oState_r4 h) ?_
  refine w_iln l_79_84 rfl ?_
  refine w_ia 2 ((n2 : Nat) : Int) l_79_85 (oState_s4 h) rfl (by omega) ((cpy_no (by omega)).trans ((cpy_no (by omega)).trans ((cpy_no (by omega)).trans ((cpy_no (by omega)).trans (((cpy_in (by decide) (by decide)).trans ((cpy_no (by omega)).trans ((cpy_no (by omega)).trans ((up_no (by omega)).trans ((up_no (by omega)).trans (h2))))))))))) ?_
  refine w_cp 240 240 n2 l_79_86 (oState_s5 hx) (oState_s5 h) (by decide) rfl rfl rfl (by omega) (by omega) (by decide) ?_
  refine w_aln l_79_89 rfl ?_
  refine w_gr l_79_90 (oState_sh hx) (oState_r6 hx) ?_
  refine w_iln l_79_93 rfl ?_
  refine w_aln l_79_94 rfl ?_
  refine w_gr l_79_95 (oState_sh h) (oState_r6 h) ?_
  refine w_iln l_79_98 rfl ?_
  refine w_aln l_79_99 rfl ?_
  refine w_gr l_79_100 (oState_sh h) (oState_r4 h) ?_
  refine w_iln l_79_103 rfl ?_
  refine w_ia 2 ((n2 : Nat) : Int) l_79_104 (oState_s4 h) rfl (by omega) ((cpy_no (by omega)).trans ((cpy_no (by omega)).trans ((cpy_no (by omega)).trans ((cpy_no (by omega)).trans ((cpy_no (by omega)).trans (((cpy_in (by decide) (by decide)).trans ((cpy_no (by omega)).trans ((cpy_no (by omega)).trans ((up_no (by omega)).trans ((up_no (by omega)).trans (h2)))))))))))) ?_
  refine w_cp 240 240 n2 l_79_105 (oState_s6 hx) (oState_s6 h) (by decide) rfl rfl rfl (by omega) (by omega) (by decide) ?_
  refine w_inc 3 l_79_108 rfl rfl (by unfold wr; omega) ?_
  refine w_go 60 l_79_111 (by decide) ?_
  refine w_iln l_79_60 rfl ?_
  refine w_ic l_79_61 (by decide) ?_
  refine w_cge 114 l_79_62 (by decide) (fun hx => absurd hx (by decide)) (fun _ => ?_)
  refine w_iln l_79_65 rfl ?_
  refine w_bp l_79_66 (by decide) ?_
  refine w_mul 360 l_79_68 (by decide) ?_
  refine w_isn l_79_69 ⟨Nat.le_of_ble_eq_true rfl, rfl⟩ ?_
  refine w_aln l_79_70 rfl ?_
  refine w_gr l_79_71 (oState_sh hx) (oState_r5 hx) ?_
  refine w_iln l_79_74 rfl ?_
  refine w_aln l_79_75 rfl ?_
  refine w_gr l_79_76 (oState_sh h) (oState_r5 h) ?_
  refine w_iln l_79_79 rfl ?_
  refine w_aln l_79_80 rfl ?_
  refine w_gr l_79_81 (oState_sh h) (oState_r4 h) ?_
  refine w_iln l_79_84 rfl ?_
  refine w_ia 3 ((n3 : Nat) : Int) l_79_85 (oState_s4 h) rfl (by omega) ((cpy_no (by omega)).trans ((cpy_no (by omega)).trans ((cpy_no (by omega)).trans ((cpy_no (by omega)).trans ((cpy_no (by omega)).trans ((cpy_no (by omega)).trans (((cpy_in (by decide) (by decide)).trans ((cpy_no (by omega)).trans ((cpy_no (by omega)).trans ((up_no (by omega)).trans ((up_no (by omega)).trans (h3))))))))))))) ?_
  refine w_cp 360 360 n3 l_79_86 (oState_s5 hx) (oState_s5 h) (by decide) rfl rfl rfl (by omega) (by omega) (by decide) ?_
  refine w_aln l_79_89 rfl ?_
  refine w_gr l_79_90 (oState_sh hx) (oState_r6 hx) ?_
  refine w_iln l_79_93 rfl ?_
  refine w_aln l_79_94 rfl ?_
  refine w_gr l_79_95 (oState_sh h) (oState_r6 h) ?_
  refine w_iln l_79_98 rfl ?_
  refine w_aln l_79_99 rfl ?_
  refine w_gr l_79_100 (oState_sh h) (oState_r4 h) ?_
  refine w_iln l_79_103 rfl ?_
  refine w_ia 3 ((n3 : Nat) : Int) l_79_104 (oState_s4 h) rfl (by omega) ((cpy_no (by omega)).trans ((cpy_no (by omega)).trans ((cpy_no (by omega)).trans ((cpy_no (by omega)).trans ((cpy_no (by omega)).trans ((cpy_no (by omega)).trans ((cpy_no (by omega)).trans (((cpy_in (by decide) (by decide)).trans ((cpy_no (by omega)).trans ((cpy_no (by omega)).trans ((up_no (by omega)).trans ((up_no (by omega)).trans (h3)))))))))))))) ?_
  refine w_cp 360 360 n3 l_79_105 (oState_s6 hx) (oState_s6 h) (by decide) rfl rfl rfl (by omega) (by omega) (by decide) ?_
  refine w_inc 4 l_79_108 rfl rfl (by unfold wr; omega) ?_
  refine w_go 60 l_79_111 (by decide) ?_
  refine w_iln l_79_60 rfl ?_
  refine w_ic l_79_61 (by decide) ?_
  refine w_cge 114 l_79_62 (by decide) (fun _ => ?_) (fun hx => absurd hx (by decide))
  refine w_aln l_79_114 rfl ?_
  refine w_gr l_79_115 (oState_sh hx) (oState_r7 hx) ?_
  refine w_ic l_79_118 (by decide) ?_
  refine w_aln l_79_119 rfl ?_
  refine w_gr l_79_120 (oState_sh h) (oState_r7 h) ?_
  refine w_ic l_79_123 (by decide) ?_
  refine w_bp l_79_124 (by decide) ?_
  refine w_cp 0 0 64 l_79_126 (oState_s7 hx) (oState_s7 h) (by decide) rfl rfl rfl (by omega) (by omega) (by decide) ?_
  refine w_aln l_79_129 rfl ?_
  refine w_gr l_79_130 (oState_sh hx) (oState_r8 hx) ?_
  refine w_ic l_79_133 (by decide) ?_
  refine w_aln l_79_134 rfl ?_
  refine w_gr l_79_135 (oState_sh h) (oState_r8 h) ?_
  refine w_ic l_79_138 (by decide) ?_
  refine w_bp l_79_139 (by decide) ?_
  refine w_cp 0 0 64 l_79_141 (oState_s8 hx) (oState_s8 h) (by decide) rfl rfl rfl (by omega) (by omega) (by decide) ?_
  refine w_vr l_79_144 ?_
  exact ⟨rfl, rfl⟩

end STA
