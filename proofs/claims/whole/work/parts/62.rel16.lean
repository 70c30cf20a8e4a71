/-! 62: a text taken over: the book settled; what a trace leaves -/
theorem tSt_X (B : BP) (G : GP) : ∀ n, (tSt B G n).2.2.2.1 = B.2.2.1
  | 0 => rfl
  | n + 1 => by rw [tSt]; exact tSt_X B G n
theorem tSt_at (B : BP) (G : GP) : ∀ n j, j < n → ∃ G', (tSt B G n).2.2.2.2 j = (stl (B.2.2.2 j) G').2
  | 0, j, h => absurd h (Nat.not_lt_zero j)
  | n + 1, j, h => by
    rw [tSt]
    show ∃ G', uX (tSt B G n).2.2.2.2 n (stl ((tSt B G n).2.2.2.2 n) (tSt B G n).1).2 j = (stl (B.2.2.2 j) G').2
    by_cases e : j = n
    · subst e
      refine ⟨(tSt B G j).1, ?_⟩
      rw [uX_s, tSt_n B G (Nat.le_refl j)]
    · rw [uX_n e]
      exact tSt_at B G n j (by omega)
theorem rdB_settled {B : BP} {N : Nat → Int32} (h : rdB B N) (G : GP) : bRel (tSt B G B.2.1).2 N := by
  obtain ⟨hB, h12, h0, h1, hA, hJ, -, -⟩ := h
  have h2 : ∀ n, n < B.2.1 → 2 ≤ (B.2.2.2 n).2.1 := fun n hn => (hJ n hn).2.2.2.2.2.1
  refine ⟨tSt_ok hB h2 (Nat.le_refl _), ?_, ?_, fun i hi => ?_, fun j hj => ?_⟩
  · rw [tSt_a]; exact h0
  · rw [tSt_j]; exact h1
  · rw [tSt_a] at hi
    rw [tSt_X]
    exact hA i hi
  · rw [tSt_j] at hj
    obtain ⟨G', e⟩ := tSt_at B G B.2.1 j hj
    rw [tSt_a, e]
    obtain ⟨j1, j2, j3, j4, j5, j6⟩ := hJ j hj
    exact jRel_stl G' j1 j2 j3 j4 j5 j6
theorem okB_acL {T : TP} : ∀ {m : Nat} {P : RP} {B : BP}, okB B → okB (acL T m P B).2.2
  | 0, _, _, h => h
  | m + 1, P, B, h => by
    rw [acL]
    split
    · split
      · exact okB_acL (m := m) (okB_ac h)
      · exact okB_ac h
    · exact h
theorem okB_jnL {T : TP} : ∀ {m : Nat} {P : RP} {B : BP}, okB B → okB (jnL T m P B).2.2
  | 0, _, _, h => h
  | m + 1, P, B, h => by
    rw [jnL]
    split
    · split
      · exact okB_jnL (m := m) (okB_rJn h)
      · exact okB_rJn h
    · exact h
theorem okB_rdW {T : TP} {P : RP} {B : BP} (h : okB B) : okB (rdW T P B).2.2 := by
  have h0 : okB (0, 0, B.2.2) := ⟨Nat.zero_le _, Nat.zero_le _, h.2.2⟩
  unfold rdW
  generalize stR T (rd0 P) = P0
  have h1 := okB_acL (T := T) (m := 13) (P := P0) h0
  unfold rd2
  split
  · have h2 := okB_jnL (T := T) (m := 13) (P := (acL T 13 P0 (0, 0, B.2.2)).2.1) h1
    unfold rd3
    split
    · split
      · exact h2
      · exact h2
    · exact h2
  · exact h1
theorem gK_le (B : BP) : ∀ n, (gK B n).1 ≤ n
  | 0 => Nat.le_refl _
  | n + 1 => by
    rw [gK]
    have := gK_le B n
    split
    · show (gK B n).1 + 1 ≤ n + 1
      omega
    · omega
theorem tQ_30 {B : BP} {Q : SP} (hQ : ∀ i, Q.2.2.2.2 30 i = 0) : ∀ i, (tQ B Q).2.2.2.2 30 i = 0 := fun i => by
  have h := gJ_le B Q.2.2.1 30
  obtain ⟨al, -, -, h3⟩ := gA_spec B (gK B 30).2 (gJ B Q.2.2.1 30).1 Q.2.2.2.1 Q.2.2.2.2 12
  show (gA B (gK B 30).2 (gJ B Q.2.2.1 30).1 Q.2.2.2.1 Q.2.2.2.2 12).2.2 30 i = 0
  rw [h3 30 (by omega)]
  exact hQ i
