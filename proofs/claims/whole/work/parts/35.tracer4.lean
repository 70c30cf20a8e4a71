/-! 35: CashDeriver$Tracer: shares -/
theorem cQ_set {w : vWd} {a sr : Nat → Nat} {Q : SP} {X : va_W} {i : Nat} {f : Nat → Int32} (hi : i < 31) : (cQ w a sr Q ++ X).set (4 + i) (sr i, .inl (vA w 0, 12, .inl f)) = cQ w a sr (Q.1, Q.2.1, Q.2.2.1, Q.2.2.2.1, uX Q.2.2.2.2 i f) ++ X := by
  have h1 : 4 + i < (cQ w a sr Q).length := by simp [cQ, cQ5]; omega
  rw [List.set_append_left _ _ h1]
  congr 1
  show (cQ5 w a sr Q ++ _).set (4 + i) _ = cQ5 w a sr Q ++ _
  rw [List.set_append_right _ _ (by simp [cQ5])]
  congr 1
  rw [show 4 + i - (cQ5 w a sr Q).length = i by simp [cQ5]]
  apply List.ext_getElem?
  intro k
  rw [List.getElem?_set]
  by_cases hk : i = k
  · subst hk
    simp [hi, uX]
  · rw [if_neg hk]
    by_cases h2 : k < 31
    · simp [h2, uX, show ¬ k = i from fun e => hk e.symm]
    · simp [h2]
theorem rb_f {w : vWd} {R : va_W} {ab : Nat → Nat} {aj : Nat → Nat → Nat} {B : BP} {n : Nat} (hn : n < 30) : (R ++ cB w ab aj B).Perm (cJ w (aj n) (B.2.2.2 n) ++ ((cB5 w ab aj B ++ cJx w aj B.2.2.2 n) ++ R)) := by
  have h := cB_focus (w := w) (ab := ab) (aj := aj) (B := B) hn
  rw [← List.append_assoc]
  exact List.perm_append_comm.trans (h.append_right R)
