/-! 67: what stands at the start: words of the tables and of the Statement's premises that are kept apart -/
theorem st_flags {l : Launch} (h : l.flags = flags0) : l.stackTraces = false := by
  unfold Launch.stackTraces
  rw [h]
  decide +kernel
def stW : List Cond := vNest.map (fun q => .methodLinkNest q.1 q.2.1 q.2.2.1 q.2.2.2) ++ (vRefs.map (fun q => .stringRef q.1 q.2.1 q.2.2.1) ++ (vDecl.map (fun x => .declares x) ++ [.laysStatic "java/lang/String" "COMPACT_STRINGS" "Z", .initialized "java/lang/String", .laysStatic "jdk/internal/util/Preconditions" "SIOOBE_FORMATTER" "Ljava/util/function/BiFunction;", .initialized "jdk/internal/util/Preconditions", .laysStatic Bundle.tN "UNASSIGNED_STACK" Bundle.steD, .laysStatic Bundle.tN "SUPPRESSED_SENTINEL" Bundle.listD, .initialized Bundle.tN, .castable "java/util/NoSuchElementException" "java/util/NoSuchElementException", .arrayClass .int, .arrayClass .byte, .arrayClass .long, .arrayOver (.object "CashDeriver$Journal"), .arrayOver (.array .int)]))
theorem stW_in : ∀ c ∈ stW, c ∈ lw_tbl := by decide +kernel
def stF : List Cond := flatC (Jvm.Cond.and given_1 narrow_1)
def stTm (j : Nat) : Term := (vRefs.map (fun q => Term.string q.1 q.2.1)).getD j (.int 0)
theorem stE1 : ∀ i, i < 12 → Cond.exactly (stTm i) "java/lang/String" ∈ stF := by decide +kernel
theorem stE2 : ∀ i, i < 8 → Cond.eq (.field (stTm i) "java/lang/String" "coder" "B") (.int 0) ∈ stF := by decide +kernel
theorem stE3 : ∀ i, i < 8 → Cond.arrayOf (.field (stTm i) "java/lang/String" "value" "[B") .byte ∈ stF := by decide +kernel
theorem stE4 : ∀ i, i < 8 → Cond.eq (.length (.field (stTm i) "java/lang/String" "value" "[B")) (.int (Int32.ofNat (vLen.getD i 0))) ∈ stF := by decide +kernel
theorem stE5 : ∀ i, i < 8 → ∀ j, j < vLen.getD i 0 → Cond.eq (.elem (.field (stTm i) "java/lang/String" "value" "[B") (.int (Int32.ofNat j))) (.int ((vByt.getD i []).getD j 0)) ∈ stF := by decide +kernel
theorem stE6 : ∀ i, i < 8 → ∀ j, j < 8 → i ≠ j → Cond.not (Cond.eq (stTm i) (stTm j)) ∈ stF ∨ Cond.not (Cond.eq (stTm j) (stTm i)) ∈ stF := by decide +kernel
theorem stE7 : Cond.eq (Term.static "java/lang/String" "COMPACT_STRINGS" "Z") (.int 1) ∈ stF ∧ Cond.isRef (Term.static "jdk/internal/util/Preconditions" "SIOOBE_FORMATTER" "Ljava/util/function/BiFunction;") ∈ stF ∧ Cond.isRef (Term.static Bundle.tN "UNASSIGNED_STACK" Bundle.steD) ∈ stF ∧ Cond.isRef (Term.static Bundle.tN "SUPPRESSED_SENTINEL" Bundle.listD) ∈ stF := by decide +kernel
