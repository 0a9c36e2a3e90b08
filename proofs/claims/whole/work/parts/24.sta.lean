/-! where the objects of a class have their parts -/
def oState (S : List (Nat × Nat)) (T : Nat → Nat → Nat) (s : Nat) : Prop := S[s]? = some (0, 7) ∧ S[s + 1]? = some (1, 4) ∧ T s 2 = s + 1 + 1 ∧ S[s + 2]? = some (1, 4) ∧ T s 3 = s + 2 + 1 ∧ S[s + 3]? = some (1, 4) ∧ T s 4 = s + 3 + 1 ∧ S[s + 4]? = some (1, 480) ∧ T s 5 = s + 4 + 1 ∧ S[s + 5]? = some (1, 480) ∧ T s 6 = s + 5 + 1 ∧ S[s + 6]? = some (1, 64) ∧ T s 7 = s + 6 + 1 ∧ S[s + 7]? = some (1, 64) ∧ T s 8 = s + 7 + 1
theorem oState_sh {S : List (Nat × Nat)} {T : Nat → Nat → Nat} {s : Nat} (h : oState S T s) : S[s]? = some (0, 7) := h.1
theorem oState_s2 {S : List (Nat × Nat)} {T : Nat → Nat → Nat} {s : Nat} (h : oState S T s) : S[s + 1]? = some (1, 4) := h.2.1
theorem oState_r2 {S : List (Nat × Nat)} {T : Nat → Nat → Nat} {s : Nat} (h : oState S T s) : T s 2 = s + 1 + 1 := h.2.2.1
theorem oState_s3 {S : List (Nat × Nat)} {T : Nat → Nat → Nat} {s : Nat} (h : oState S T s) : S[s + 2]? = some (1, 4) := h.2.2.2.1
theorem oState_r3 {S : List (Nat × Nat)} {T : Nat → Nat → Nat} {s : Nat} (h : oState S T s) : T s 3 = s + 2 + 1 := h.2.2.2.2.1
theorem oState_s4 {S : List (Nat × Nat)} {T : Nat → Nat → Nat} {s : Nat} (h : oState S T s) : S[s + 3]? = some (1, 4) := h.2.2.2.2.2.1
theorem oState_r4 {S : List (Nat × Nat)} {T : Nat → Nat → Nat} {s : Nat} (h : oState S T s) : T s 4 = s + 3 + 1 := h.2.2.2.2.2.2.1
theorem oState_s5 {S : List (Nat × Nat)} {T : Nat → Nat → Nat} {s : Nat} (h : oState S T s) : S[s + 4]? = some (1, 480) := h.2.2.2.2.2.2.2.1
theorem oState_r5 {S : List (Nat × Nat)} {T : Nat → Nat → Nat} {s : Nat} (h : oState S T s) : T s 5 = s + 4 + 1 := h.2.2.2.2.2.2.2.2.1
theorem oState_s6 {S : List (Nat × Nat)} {T : Nat → Nat → Nat} {s : Nat} (h : oState S T s) : S[s + 5]? = some (1, 480) := h.2.2.2.2.2.2.2.2.2.1
theorem oState_r6 {S : List (Nat × Nat)} {T : Nat → Nat → Nat} {s : Nat} (h : oState S T s) : T s 6 = s + 5 + 1 := h.2.2.2.2.2.2.2.2.2.2.1
theorem oState_s7 {S : List (Nat × Nat)} {T : Nat → Nat → Nat} {s : Nat} (h : oState S T s) : S[s + 6]? = some (1, 64) := h.2.2.2.2.2.2.2.2.2.2.2.1
theorem oState_r7 {S : List (Nat × Nat)} {T : Nat → Nat → Nat} {s : Nat} (h : oState S T s) : T s 7 = s + 6 + 1 := h.2.2.2.2.2.2.2.2.2.2.2.2.1
theorem oState_s8 {S : List (Nat × Nat)} {T : Nat → Nat → Nat} {s : Nat} (h : oState S T s) : S[s + 7]? = some (1, 64) := h.2.2.2.2.2.2.2.2.2.2.2.2.2.1
theorem oState_r8 {S : List (Nat × Nat)} {T : Nat → Nat → Nat} {s : Nat} (h : oState S T s) : T s 8 = s + 7 + 1 := h.2.2.2.2.2.2.2.2.2.2.2.2.2.2
def oLog (S : List (Nat × Nat)) (T : Nat → Nat → Nat) (s : Nat) : Prop := S[s]? = some (0, 3) ∧ S[s + 1]? = some (1, 1800) ∧ T s 1 = s + 1 + 1 ∧ S[s + 2]? = some (1, 600) ∧ T s 2 = s + 2 + 1 ∧ S[s + 3]? = some (1, 4) ∧ T s 3 = s + 3 + 1 ∧ S[s + 4]? = some (1, 4) ∧ T s 4 = s + 4 + 1 ∧ S[s + 5]? = some (1, 4) ∧ T s 5 = s + 5 + 1
theorem oLog_sh {S : List (Nat × Nat)} {T : Nat → Nat → Nat} {s : Nat} (h : oLog S T s) : S[s]? = some (0, 3) := h.1
theorem oLog_s1 {S : List (Nat × Nat)} {T : Nat → Nat → Nat} {s : Nat} (h : oLog S T s) : S[s + 1]? = some (1, 1800) := h.2.1
theorem oLog_r1 {S : List (Nat × Nat)} {T : Nat → Nat → Nat} {s : Nat} (h : oLog S T s) : T s 1 = s + 1 + 1 := h.2.2.1
theorem oLog_s2 {S : List (Nat × Nat)} {T : Nat → Nat → Nat} {s : Nat} (h : oLog S T s) : S[s + 2]? = some (1, 600) := h.2.2.2.1
theorem oLog_r2 {S : List (Nat × Nat)} {T : Nat → Nat → Nat} {s : Nat} (h : oLog S T s) : T s 2 = s + 2 + 1 := h.2.2.2.2.1
theorem oLog_s3 {S : List (Nat × Nat)} {T : Nat → Nat → Nat} {s : Nat} (h : oLog S T s) : S[s + 3]? = some (1, 4) := h.2.2.2.2.2.1
theorem oLog_r3 {S : List (Nat × Nat)} {T : Nat → Nat → Nat} {s : Nat} (h : oLog S T s) : T s 3 = s + 3 + 1 := h.2.2.2.2.2.2.1
theorem oLog_s4 {S : List (Nat × Nat)} {T : Nat → Nat → Nat} {s : Nat} (h : oLog S T s) : S[s + 4]? = some (1, 4) := h.2.2.2.2.2.2.2.1
theorem oLog_r4 {S : List (Nat × Nat)} {T : Nat → Nat → Nat} {s : Nat} (h : oLog S T s) : T s 4 = s + 4 + 1 := h.2.2.2.2.2.2.2.2.1
theorem oLog_s5 {S : List (Nat × Nat)} {T : Nat → Nat → Nat} {s : Nat} (h : oLog S T s) : S[s + 5]? = some (1, 4) := h.2.2.2.2.2.2.2.2.2.1
theorem oLog_r5 {S : List (Nat × Nat)} {T : Nat → Nat → Nat} {s : Nat} (h : oLog S T s) : T s 5 = s + 5 + 1 := h.2.2.2.2.2.2.2.2.2.2
def oLimits (S : List (Nat × Nat)) (T : Nat → Nat → Nat) (s : Nat) : Prop := S[s]? = some (0, 1) ∧ S[s + 1]? = some (1, 4) ∧ T s 1 = s + 1 + 1 ∧ S[s + 2]? = some (1, 4) ∧ T s 2 = s + 2 + 1 ∧ S[s + 3]? = some (1, 4) ∧ T s 3 = s + 3 + 1 ∧ S[s + 4]? = some (1, 4) ∧ T s 4 = s + 4 + 1
theorem oLimits_sh {S : List (Nat × Nat)} {T : Nat → Nat → Nat} {s : Nat} (h : oLimits S T s) : S[s]? = some (0, 1) := h.1
theorem oLimits_s1 {S : List (Nat × Nat)} {T : Nat → Nat → Nat} {s : Nat} (h : oLimits S T s) : S[s + 1]? = some (1, 4) := h.2.1
theorem oLimits_r1 {S : List (Nat × Nat)} {T : Nat → Nat → Nat} {s : Nat} (h : oLimits S T s) : T s 1 = s + 1 + 1 := h.2.2.1
theorem oLimits_s2 {S : List (Nat × Nat)} {T : Nat → Nat → Nat} {s : Nat} (h : oLimits S T s) : S[s + 2]? = some (1, 4) := h.2.2.2.1
theorem oLimits_r2 {S : List (Nat × Nat)} {T : Nat → Nat → Nat} {s : Nat} (h : oLimits S T s) : T s 2 = s + 2 + 1 := h.2.2.2.2.1
theorem oLimits_s3 {S : List (Nat × Nat)} {T : Nat → Nat → Nat} {s : Nat} (h : oLimits S T s) : S[s + 3]? = some (1, 4) := h.2.2.2.2.2.1
theorem oLimits_r3 {S : List (Nat × Nat)} {T : Nat → Nat → Nat} {s : Nat} (h : oLimits S T s) : T s 3 = s + 3 + 1 := h.2.2.2.2.2.2.1
theorem oLimits_s4 {S : List (Nat × Nat)} {T : Nat → Nat → Nat} {s : Nat} (h : oLimits S T s) : S[s + 4]? = some (1, 4) := h.2.2.2.2.2.2.2.1
theorem oLimits_r4 {S : List (Nat × Nat)} {T : Nat → Nat → Nat} {s : Nat} (h : oLimits S T s) : T s 4 = s + 4 + 1 := h.2.2.2.2.2.2.2.2
def oHistory (S : List (Nat × Nat)) (T : Nat → Nat → Nat) (s : Nat) : Prop := S[s]? = some (0, 0) ∧ S[s + 1]? = some (1, 120) ∧ T s 2 = s + 1 + 1 ∧ S[s + 2]? = some (1, 120) ∧ T s 3 = s + 2 + 1 ∧ S[s + 3]? = some (1, 120) ∧ T s 4 = s + 3 + 1 ∧ S[s + 4]? = some (1, 120) ∧ T s 5 = s + 4 + 1 ∧ S[s + 5]? = some (1, 120) ∧ T s 6 = s + 5 + 1 ∧ S[s + 6]? = some (1, 120) ∧ T s 7 = s + 6 + 1 ∧ S[s + 7]? = some (1, 120) ∧ T s 8 = s + 7 + 1 ∧ S[s + 8]? = some (1, 120) ∧ T s 9 = s + 8 + 1 ∧ S[s + 9]? = some (1, 120) ∧ T s 10 = s + 9 + 1
theorem oHistory_sh {S : List (Nat × Nat)} {T : Nat → Nat → Nat} {s : Nat} (h : oHistory S T s) : S[s]? = some (0, 0) := h.1
theorem oHistory_s2 {S : List (Nat × Nat)} {T : Nat → Nat → Nat} {s : Nat} (h : oHistory S T s) : S[s + 1]? = some (1, 120) := h.2.1
theorem oHistory_r2 {S : List (Nat × Nat)} {T : Nat → Nat → Nat} {s : Nat} (h : oHistory S T s) : T s 2 = s + 1 + 1 := h.2.2.1
theorem oHistory_s3 {S : List (Nat × Nat)} {T : Nat → Nat → Nat} {s : Nat} (h : oHistory S T s) : S[s + 2]? = some (1, 120) := h.2.2.2.1
theorem oHistory_r3 {S : List (Nat × Nat)} {T : Nat → Nat → Nat} {s : Nat} (h : oHistory S T s) : T s 3 = s + 2 + 1 := h.2.2.2.2.1
theorem oHistory_s4 {S : List (Nat × Nat)} {T : Nat → Nat → Nat} {s : Nat} (h : oHistory S T s) : S[s + 3]? = some (1, 120) := h.2.2.2.2.2.1
theorem oHistory_r4 {S : List (Nat × Nat)} {T : Nat → Nat → Nat} {s : Nat} (h : oHistory S T s) : T s 4 = s + 3 + 1 := h.2.2.2.2.2.2.1
theorem oHistory_s5 {S : List (Nat × Nat)} {T : Nat → Nat → Nat} {s : Nat} (h : oHistory S T s) : S[s + 4]? = some (1, 120) := h.2.2.2.2.2.2.2.1
theorem oHistory_r5 {S : List (Nat × Nat)} {T : Nat → Nat → Nat} {s : Nat} (h : oHistory S T s) : T s 5 = s + 4 + 1 := h.2.2.2.2.2.2.2.2.1
theorem oHistory_s6 {S : List (Nat × Nat)} {T : Nat → Nat → Nat} {s : Nat} (h : oHistory S T s) : S[s + 5]? = some (1, 120) := h.2.2.2.2.2.2.2.2.2.1
theorem oHistory_r6 {S : List (Nat × Nat)} {T : Nat → Nat → Nat} {s : Nat} (h : oHistory S T s) : T s 6 = s + 5 + 1 := h.2.2.2.2.2.2.2.2.2.2.1
theorem oHistory_s7 {S : List (Nat × Nat)} {T : Nat → Nat → Nat} {s : Nat} (h : oHistory S T s) : S[s + 6]? = some (1, 120) := h.2.2.2.2.2.2.2.2.2.2.2.1
theorem oHistory_r7 {S : List (Nat × Nat)} {T : Nat → Nat → Nat} {s : Nat} (h : oHistory S T s) : T s 7 = s + 6 + 1 := h.2.2.2.2.2.2.2.2.2.2.2.2.1
theorem oHistory_s8 {S : List (Nat × Nat)} {T : Nat → Nat → Nat} {s : Nat} (h : oHistory S T s) : S[s + 7]? = some (1, 120) := h.2.2.2.2.2.2.2.2.2.2.2.2.2.1
theorem oHistory_r8 {S : List (Nat × Nat)} {T : Nat → Nat → Nat} {s : Nat} (h : oHistory S T s) : T s 8 = s + 7 + 1 := h.2.2.2.2.2.2.2.2.2.2.2.2.2.2.1
theorem oHistory_s9 {S : List (Nat × Nat)} {T : Nat → Nat → Nat} {s : Nat} (h : oHistory S T s) : S[s + 8]? = some (1, 120) := h.2.2.2.2.2.2.2.2.2.2.2.2.2.2.2.1
theorem oHistory_r9 {S : List (Nat × Nat)} {T : Nat → Nat → Nat} {s : Nat} (h : oHistory S T s) : T s 9 = s + 8 + 1 := h.2.2.2.2.2.2.2.2.2.2.2.2.2.2.2.2.1
theorem oHistory_s10 {S : List (Nat × Nat)} {T : Nat → Nat → Nat} {s : Nat} (h : oHistory S T s) : S[s + 9]? = some (1, 120) := h.2.2.2.2.2.2.2.2.2.2.2.2.2.2.2.2.2.1
theorem oHistory_r10 {S : List (Nat × Nat)} {T : Nat → Nat → Nat} {s : Nat} (h : oHistory S T s) : T s 10 = s + 9 + 1 := h.2.2.2.2.2.2.2.2.2.2.2.2.2.2.2.2.2.2
def oSuppositions (S : List (Nat × Nat)) (T : Nat → Nat → Nat) (s : Nat) : Prop := S[s]? = some (0, 8) ∧ S[s + 1]? = some (1, 15) ∧ T s 0 = s + 1 + 1 ∧ S[s + 2]? = some (4, 120) ∧ T s 1 = s + 2 + 1
theorem oSuppositions_sh {S : List (Nat × Nat)} {T : Nat → Nat → Nat} {s : Nat} (h : oSuppositions S T s) : S[s]? = some (0, 8) := h.1
theorem oSuppositions_s0 {S : List (Nat × Nat)} {T : Nat → Nat → Nat} {s : Nat} (h : oSuppositions S T s) : S[s + 1]? = some (1, 15) := h.2.1
theorem oSuppositions_r0 {S : List (Nat × Nat)} {T : Nat → Nat → Nat} {s : Nat} (h : oSuppositions S T s) : T s 0 = s + 1 + 1 := h.2.2.1
theorem oSuppositions_s1 {S : List (Nat × Nat)} {T : Nat → Nat → Nat} {s : Nat} (h : oSuppositions S T s) : S[s + 2]? = some (4, 120) := h.2.2.2.1
theorem oSuppositions_r1 {S : List (Nat × Nat)} {T : Nat → Nat → Nat} {s : Nat} (h : oSuppositions S T s) : T s 1 = s + 2 + 1 := h.2.2.2.2
def oLine (S : List (Nat × Nat)) (T : Nat → Nat → Nat) (s : Nat) : Prop := S[s]? = some (0, 2) ∧ S[s + 1]? = some (3, 600) ∧ T s 0 = s + 1 + 1
theorem oLine_sh {S : List (Nat × Nat)} {T : Nat → Nat → Nat} {s : Nat} (h : oLine S T s) : S[s]? = some (0, 2) := h.1
theorem oLine_s0 {S : List (Nat × Nat)} {T : Nat → Nat → Nat} {s : Nat} (h : oLine S T s) : S[s + 1]? = some (3, 600) := h.2.1
theorem oLine_r0 {S : List (Nat × Nat)} {T : Nat → Nat → Nat} {s : Nat} (h : oLine S T s) : T s 0 = s + 1 + 1 := h.2.2
def oSetup (S : List (Nat × Nat)) (T : Nat → Nat → Nat) (s : Nat) : Prop := S[s]? = some (0, 6) ∧ oLimits S T (s + 1) ∧ T s 0 = s + 1 + 1 ∧ S[s + 6]? = some (1, 4) ∧ T s 1 = s + 6 + 1 ∧ S[s + 7]? = some (1, 9) ∧ T s 3 = s + 7 + 1 ∧ S[s + 8]? = some (1, 600) ∧ T s 4 = s + 8 + 1
theorem oSetup_sh {S : List (Nat × Nat)} {T : Nat → Nat → Nat} {s : Nat} (h : oSetup S T s) : S[s]? = some (0, 6) := h.1
theorem oSetup_o0 {S : List (Nat × Nat)} {T : Nat → Nat → Nat} {s : Nat} (h : oSetup S T s) : oLimits S T (s + 1) := h.2.1
theorem oSetup_r0 {S : List (Nat × Nat)} {T : Nat → Nat → Nat} {s : Nat} (h : oSetup S T s) : T s 0 = s + 1 + 1 := h.2.2.1
theorem oSetup_s1 {S : List (Nat × Nat)} {T : Nat → Nat → Nat} {s : Nat} (h : oSetup S T s) : S[s + 6]? = some (1, 4) := h.2.2.2.1
theorem oSetup_r1 {S : List (Nat × Nat)} {T : Nat → Nat → Nat} {s : Nat} (h : oSetup S T s) : T s 1 = s + 6 + 1 := h.2.2.2.2.1
theorem oSetup_s3 {S : List (Nat × Nat)} {T : Nat → Nat → Nat} {s : Nat} (h : oSetup S T s) : S[s + 7]? = some (1, 9) := h.2.2.2.2.2.1
theorem oSetup_r3 {S : List (Nat × Nat)} {T : Nat → Nat → Nat} {s : Nat} (h : oSetup S T s) : T s 3 = s + 7 + 1 := h.2.2.2.2.2.2.1
theorem oSetup_s4 {S : List (Nat × Nat)} {T : Nat → Nat → Nat} {s : Nat} (h : oSetup S T s) : S[s + 8]? = some (1, 600) := h.2.2.2.2.2.2.2.1
theorem oSetup_r4 {S : List (Nat × Nat)} {T : Nat → Nat → Nat} {s : Nat} (h : oSetup S T s) : T s 4 = s + 8 + 1 := h.2.2.2.2.2.2.2.2
def oRun (S : List (Nat × Nat)) (T : Nat → Nat → Nat) (s : Nat) (x : Nat) : Prop := S[s]? = some (0, 5) ∧ oLimits S T (s + 1) ∧ T s 0 = s + 1 + 1 ∧ oState S T (s + 6) ∧ T s 1 = s + 6 + 1 ∧ oLog S T (s + 14) ∧ T s 2 = s + 14 + 1 ∧ oHistory S T x ∧ T s 3 = x + 1
theorem oRun_sh {S : List (Nat × Nat)} {T : Nat → Nat → Nat} {s x : Nat} (h : oRun S T s x) : S[s]? = some (0, 5) := h.1
theorem oRun_o0 {S : List (Nat × Nat)} {T : Nat → Nat → Nat} {s x : Nat} (h : oRun S T s x) : oLimits S T (s + 1) := h.2.1
theorem oRun_r0 {S : List (Nat × Nat)} {T : Nat → Nat → Nat} {s x : Nat} (h : oRun S T s x) : T s 0 = s + 1 + 1 := h.2.2.1
theorem oRun_o1 {S : List (Nat × Nat)} {T : Nat → Nat → Nat} {s x : Nat} (h : oRun S T s x) : oState S T (s + 6) := h.2.2.2.1
theorem oRun_r1 {S : List (Nat × Nat)} {T : Nat → Nat → Nat} {s x : Nat} (h : oRun S T s x) : T s 1 = s + 6 + 1 := h.2.2.2.2.1
theorem oRun_o2 {S : List (Nat × Nat)} {T : Nat → Nat → Nat} {s x : Nat} (h : oRun S T s x) : oLog S T (s + 14) := h.2.2.2.2.2.1
theorem oRun_r2 {S : List (Nat × Nat)} {T : Nat → Nat → Nat} {s x : Nat} (h : oRun S T s x) : T s 2 = s + 14 + 1 := h.2.2.2.2.2.2.1
theorem oRun_o3 {S : List (Nat × Nat)} {T : Nat → Nat → Nat} {s x : Nat} (h : oRun S T s x) : oHistory S T x := h.2.2.2.2.2.2.2.1
theorem oRun_r3 {S : List (Nat × Nat)} {T : Nat → Nat → Nat} {s x : Nat} (h : oRun S T s x) : T s 3 = x + 1 := h.2.2.2.2.2.2.2.2

theorem CL_start {xs : List Int} {j r : Nat} {as ls : List AV} {m : Mem} {Q : Res → Mem → Prop} (hr : rkA j as = r) (hl : entryL j as = ls) (h : WP xs j r 0 ls [] m Q) : CL xs j as m Q := by
  unfold CL
  rw [hr, hl]
  exact h
section STA
variable {xs : List Int} {S : List (Nat × Nat)} {I : Ix} {T : Nat → Nat → Nat} {cc zz s : Nat}

theorem mx_84 : mxl 84 = 3 := by decide +kernel
theorem mt_84 : mtc 84 = 7 := by decide +kernel
theorem rk_84 (as : List AV) : rkA 84 as = 0 := rfl
theorem l_84_0 : look 84 0 = some (.iload_n 2, 1, 0, 0, 0, 0) := by decide +kernel
theorem l_84_1 : look 84 1 = some (.ifCond .lt 27, 3, 0, 0, 0, 0) := by decide +kernel
theorem l_84_4 : look 84 4 = some (.iload_n 2, 1, 0, 0, 0, 0) := by decide +kernel
theorem l_84_5 : look 84 5 = some (.aload_n 0, 1, 0, 0, 0, 0) := by decide +kernel
theorem l_84_6 : look 84 6 = some (.getfield 18, 3, 7, 4, 2, 392) := by decide +kernel
theorem l_84_9 : look 84 9 = some (.iload_n 1, 1, 0, 0, 0, 0) := by decide +kernel
theorem l_84_10 : look 84 10 = some (.iaload, 1, 0, 0, 0, 0) := by decide +kernel
theorem l_84_11 : look 84 11 = some (.if_icmp .ge 17, 3, 0, 0, 0, 0) := by decide +kernel
theorem l_84_14 : look 84 14 = some (.aload_n 0, 1, 0, 0, 0, 0) := by decide +kernel
theorem l_84_15 : look 84 15 = some (.getfield 21, 3, 7, 5, 2, 395) := by decide +kernel
theorem l_84_18 : look 84 18 = some (.iload_n 1, 1, 0, 0, 0, 0) := by decide +kernel
theorem l_84_19 : look 84 19 = some (.bipush 120, 2, 0, 0, 0, 0) := by decide +kernel
theorem l_84_21 : look 84 21 = some (.imul, 1, 0, 0, 0, 0) := by decide +kernel
theorem l_84_22 : look 84 22 = some (.iload_n 2, 1, 0, 0, 0, 0) := by decide +kernel
theorem l_84_23 : look 84 23 = some (.iadd, 1, 0, 0, 0, 0) := by decide +kernel
theorem l_84_24 : look 84 24 = some (.iaload, 1, 0, 0, 0, 0) := by decide +kernel
theorem l_84_25 : look 84 25 = some (.goto 4, 3, 0, 0, 0, 0) := by decide +kernel
theorem l_84_28 : look 84 28 = some (.iconst (-1), 1, 0, 0, 0, 0) := by decide +kernel
theorem l_84_29 : look 84 29 = some (.ireturn, 1, 0, 0, 0, 0) := by decide +kernel

theorem s_84 (h : oState S T s) {p n : Nat} {k : Int} (hp : p < 4) (hn : I (s + 3) p = (n : Int)) (hn1 : n ≤ 120) : CL xs 84 [vr s, vi ((p : Nat) : Int), vi k] (S, I, T, cc, zz) (FN (some (vi (if 0 ≤ k ∧ k < n then I (s + 4) (p * 120 + k).toNat else -1))) (S, I, T, cc, zz)) := by
  refine CL_start (r := 0) (ls := [vr s, vi ((p : Nat) : Int), vi k]) (rk_84 _) rfl ?_
  refine w_iln l_84_0 rfl ?_
  refine w_zlt 28 l_84_1 (by decide) (fun h1 => ?_) (fun h1 => ?_)
  · skip
    refine w_ic l_84_28 (by decide) ?_
    refine w_ir l_84_29 (Or.inl rfl) ?_
    refine ⟨?_, rfl⟩
    first
      | rw [if_neg (by omega)]
      | rw [if_pos (by omega)]
  · skip
    refine w_iln l_84_4 rfl ?_
    refine w_aln l_84_5 rfl ?_
    refine w_gr l_84_6 (oState_sh h) (oState_r4 h) ?_
    refine w_iln l_84_9 rfl ?_
    refine w_ia p ((n : Nat) : Int) l_84_10 (oState_s4 h) rfl (by omega) hn ?_
    refine w_cge 28 l_84_11 (by decide) (fun h2 => ?_) (fun h2 => ?_)
    · skip
      refine w_ic l_84_28 (by decide) ?_
      refine w_ir l_84_29 (Or.inl rfl) ?_
      refine ⟨?_, rfl⟩
      first
        | rw [if_neg (by omega)]
        | rw [if_pos (by omega)]
    · skip
      refine w_aln l_84_14 rfl ?_
      refine w_gr l_84_15 (oState_sh h) (oState_r5 h) ?_
      refine w_iln l_84_18 rfl ?_
      refine w_bp l_84_19 (by decide) ?_
      refine w_mul ((p * 120 : Nat) : Int) l_84_21 (by unfold wr; omega) ?_
      refine w_iln l_84_22 rfl ?_
      refine w_add (((p * 120 : Nat) : Int) + k) l_84_23 (by unfold wr; omega) ?_
      refine w_ia ((((p * 120 : Nat) : Int) + k).toNat) (I (s + 4) ((((p * 120 : Nat) : Int) + k).toNat)) l_84_24 (oState_s5 h) (by omega) (by omega) rfl ?_
      refine w_go 29 l_84_25 (by decide) ?_
      refine w_ir l_84_29 (Or.inl rfl) ?_
      refine ⟨?_, rfl⟩
      first
        | rw [if_neg (by omega)]
        | rw [if_pos (by omega)]

end STA
