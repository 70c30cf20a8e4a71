/-! 66: the law's loop: at its head, with i ints read, the class's object and the reference are such a pair -/
theorem v_out20 {x : Int32} (h0 : ¬ x = 0) (h1 : ¬ x = 1) (h2 : ¬ x = 2) (h3 : ¬ x = 3) (h4 : ¬ x = 4) (h5 : ¬ x = 5) (h6 : ¬ x = 6) (h7 : ¬ x = 7) (h8 : ¬ x = 8) (h9 : ¬ x = 9) (h10 : ¬ x = 10) (h11 : ¬ x = 11) (h12 : ¬ x = 12) (h13 : ¬ x = 13) (h14 : ¬ x = 14) (h15 : ¬ x = 15) (h16 : ¬ x = 16) (h17 : ¬ x = 17) (h18 : ¬ x = 18) (h19 : ¬ x = 19) (h20 : ¬ x = 20) : x.toInt < 0 ∨ 20 < x.toInt := by
  rcases (show x.toInt < 0 ∨ 0 ≤ x.toInt by omega) with c | c
  · exact Or.inl c
  rcases (show 20 < x.toInt ∨ x.toInt ≤ 20 by omega) with d | d
  · exact Or.inr d
  exfalso
  have hz : x = Int32.ofInt x.toInt := (Int32.ofInt_toInt x).symm
  generalize x.toInt = z at c d hz
  have hc : z = 0 ∨ z = 1 ∨ z = 2 ∨ z = 3 ∨ z = 4 ∨ z = 5 ∨ z = 6 ∨ z = 7 ∨ z = 8 ∨ z = 9 ∨ z = 10 ∨ z = 11 ∨ z = 12 ∨ z = 13 ∨ z = 14 ∨ z = 15 ∨ z = 16 ∨ z = 17 ∨ z = 18 ∨ z = 19 ∨ z = 20 := by omega
  rcases hc with e | e | e | e | e | e | e | e | e | e | e | e | e | e | e | e | e | e | e | e | e <;> subst e
  · exact h0 hz
  · exact h1 hz
  · exact h2 hz
  · exact h3 hz
  · exact h4 hz
  · exact h5 hz
  · exact h6 hz
  · exact h7 hz
  · exact h8 hz
  · exact h9 hz
  · exact h10 hz
  · exact h11 hz
  · exact h12 hz
  · exact h13 hz
  · exact h14 hz
  · exact h15 hz
  · exact h16 hz
  · exact h17 hz
  · exact h18 hz
  · exact h19 hz
  · exact h20 hz
theorem v_sub6 {L : Nat} (h : L ≤ 3072) : (nI L - 6).toInt = (L : Int) - 6 := by
  have e : nI L - 6 = Int32.ofInt ((L : Int) - 6) := by
    rw [Int32.ofInt_sub]
    rfl
  rw [e, Int32.toInt_ofInt_of_le (by omega) (by omega)]
theorem law_loop {w : vWd} {nm : String} {b0 L : Nat} {xs : Nat → Int32} {D : DW} {a : Nat → Nat} {u : Nat} (hst : w.1.stackTraces = false) (hL : L ≤ 3072) : ∀ (m i : Nat) (f : Nat → Int64) (x y : va_W), L + 1 ≤ i + m → i ≤ L → LR w D a x y → V w (mLw nm) (lwC b0 L xs) (1000 + i) (20000 + 6 * i) 23 (lwV b0 D a u i) [] (x ++ (y ++ lwU w u f))
  | 0, i, f, x, y, hm, hi, h => absurd hm (by omega)
  | m + 1, i, f, x, y, hm, hi, h => by
    have ih := law_loop (w := w) (nm := nm) (b0 := b0) (L := L) (xs := xs) (D := D) (a := a) (u := u) hst hL m (i + 6)
    refine V_iload dL_law_23 4 rfl ?_
    refine V_aload_n dL_law_25 0 rfl ?_
    refine V_slen dL_law_26 ?_
    refine V_bipush 6 dL_law_27 (by decide) ?_
    refine V_isub dL_law_29 ?_
    refine V_icmp_gt 1021 dL_law_30 (by decide) (fun zg => ?_) (fun zg => ?_)
    · refine V_iconst 1 dL_law_1021 (by decide) ?_
      exact V_lend dL_law_1022 (by omega) (by omega)
    · have hi6 : i + 6 ≤ L := by
        refine Nat.le_of_not_lt (fun q => zg ?_)
        rw [Int32.lt_iff_toInt_lt, v_sub6 (by omega), nI_toInt (by omega)]
        omega
      have nxt : ∀ (f : Nat → Int64) (x y : va_W), LR w D a x y → V w (mLw nm) (lwC b0 L xs) (1000 + i + 1) (20000 + 6 * i + 6) 1015 (lwV b0 D a u i) [] (x ++ (y ++ lwU w u f)) := fun f x y h => by
        refine V_iinc (L' := lwV b0 D a u (i + 6)) (nI (i + 6)) dL_law_1015 4 rfl (nI_add i 6) rfl rfl ?_
        refine V_goto 23 dL_law_1018 (by decide) ?_
        exact V.widen (by omega) (by omega) (ih f x y (by omega) hi6 h)
      have nx0 : ∀ (x y : va_W), LR w D a x y → V w (mLw nm) (lwC b0 L xs) (1000 + i) (20000 + 6 * i) 1015 (lwV b0 D a u i) [] (x ++ (y ++ lwU w u f)) := fun x y h => V.widen (by omega) (by omega) (nxt f x y h)
      have hk : 1000 + i + 1 ≤ 601024 := by omega
      have hn : 20000 + 6 * i + 6 ≤ 7293034 := by omega
      have hk0 : 1000 + i ≤ 601024 := by omega
      have hn0 : 20000 + 6 * i ≤ 7293034 := by omega
      refine V_aload_n dL_law_33 0 rfl ?_
      refine V_iload dL_law_34 4 rfl ?_
      refine V_sld i dL_law_36 rfl (by omega) hL ?_
      refine V_bipush 31 dL_law_37 (by decide) ?_
      refine V_iand dL_law_39 ?_
      generalize xs i &&& 31 = z
      by_cases z0 : z = 0
      · refine V_tabIn 140 dL_law_40 (by rw [z0]; decide) (by rw [z0]; decide) (by rw [z0]; rfl) (by decide) ?_
        exact w_feed h hL hi6 hk0 hn0 nx0
      by_cases z1 : z = 1
      · refine V_tabIn 213 dL_law_40 (by rw [z1]; decide) (by rw [z1]; decide) (by rw [z1]; rfl) (by decide) ?_
        exact w_end h hL hi6 hk0 hn0 nx0
      by_cases z2 : z = 2
      · refine V_tabIn 238 dL_law_40 (by rw [z2]; decide) (by rw [z2]; decide) (by rw [z2]; rfl) (by decide) ?_
        exact w_text h hL hi6 hk0 hn0 nx0
      by_cases z3 : z = 3
      · refine V_tabIn 251 dL_law_40 (by rw [z3]; decide) (by rw [z3]; decide) (by rw [z3]; rfl) (by decide) ?_
        exact w_fault h hL hi6 hk0 hn0 nx0
      by_cases z4 : z = 4
      · refine V_tabIn 264 dL_law_40 (by rw [z4]; decide) (by rw [z4]; decide) (by rw [z4]; rfl) (by decide) ?_
        exact w_now h hL hi6 hk0 hn0 nx0
      by_cases z5 : z = 5
      · refine V_tabIn 289 dL_law_40 (by rw [z5]; decide) (by rw [z5]; decide) (by rw [z5]; rfl) (by decide) ?_
        exact w_account hst h hL hi6 hk hn nxt
      by_cases z6 : z = 6
      · refine V_tabIn 357 dL_law_40 (by rw [z6]; decide) (by rw [z6]; decide) (by rw [z6]; rfl) (by decide) ?_
        exact w_journal hst h hL hi6 hk hn nxt
      by_cases z7 : z = 7
      · refine V_tabIn 425 dL_law_40 (by rw [z7]; decide) (by rw [z7]; decide) (by rw [z7]; rfl) (by decide) ?_
        exact w_piece h hL hi6 hk0 hn0 nx0
      by_cases z8 : z = 8
      · refine V_tabIn 474 dL_law_40 (by rw [z8]; decide) (by rw [z8]; decide) (by rw [z8]; rfl) (by decide) ?_
        exact w_direct h hL hi6 hk0 hn0 nx0
      by_cases z9 : z = 9
      · refine V_tabIn 535 dL_law_40 (by rw [z9]; decide) (by rw [z9]; decide) (by rw [z9]; rfl) (by decide) ?_
        exact w_indirect h hL hi6 hk0 hn0 nx0
      by_cases z10 : z = 10
      · refine V_tabIn 584 dL_law_40 (by rw [z10]; decide) (by rw [z10]; decide) (by rw [z10]; rfl) (by decide) ?_
        exact w_change h hL hi6 hk0 hn0 nx0
      by_cases z11 : z = 11
      · refine V_tabIn 621 dL_law_40 (by rw [z11]; decide) (by rw [z11]; decide) (by rw [z11]; rfl) (by decide) ?_
        exact w_makes h hL hi6 hk0 hn0 nx0
      by_cases z12 : z = 12
      · refine V_tabIn 670 dL_law_40 (by rw [z12]; decide) (by rw [z12]; decide) (by rw [z12]; rfl) (by decide) ?_
        exact w_deals h hL hi6 hk0 hn0 nx0
      by_cases z13 : z = 13
      · refine V_tabIn 731 dL_law_40 (by rw [z13]; decide) (by rw [z13]; decide) (by rw [z13]; rfl) (by decide) ?_
        exact w_balance h hL hi6 hk0 hn0 nx0
      by_cases z14 : z = 14
      · refine V_tabIn 768 dL_law_40 (by rw [z14]; decide) (by rw [z14]; decide) (by rw [z14]; rfl) (by decide) ?_
        exact w_traced h hL hi6 hk0 hn0 nx0
      by_cases z15 : z = 15
      · refine V_tabIn 781 dL_law_40 (by rw [z15]; decide) (by rw [z15]; decide) (by rw [z15]; rfl) (by decide) ?_
        exact w_post h hL hi6 hk0 hn0 nx0
      by_cases z16 : z = 16
      · refine V_tabIn 842 dL_law_40 (by rw [z16]; decide) (by rw [z16]; decide) (by rw [z16]; rfl) (by decide) ?_
        exact w_more h hL hi6 hk0 hn0 nx0
      by_cases z17 : z = 17
      · refine V_tabIn 903 dL_law_40 (by rw [z17]; decide) (by rw [z17]; decide) (by rw [z17]; rfl) (by decide) ?_
        exact w_strike h hL hi6 hk0 hn0 nx0
      by_cases z18 : z = 18
      · refine V_tabIn 928 dL_law_40 (by rw [z18]; decide) (by rw [z18]; decide) (by rw [z18]; rfl) (by decide) ?_
        exact w_tell h hL hi6 hk0 hn0 nx0
      by_cases z19 : z = 19
      · refine V_tabIn 965 dL_law_40 (by rw [z19]; decide) (by rw [z19]; decide) (by rw [z19]; rfl) (by decide) ?_
        exact w_turn h hL hi6 hk0 hn0 nx0
      by_cases z20 : z = 20
      · refine V_tabIn 1002 dL_law_40 (by rw [z20]; decide) (by rw [z20]; decide) (by rw [z20]; rfl) (by decide) ?_
        exact w_undo h hL hi6 hk0 hn0 nx0
      refine V_tabOut 1015 dL_law_40 (v_out20 z0 z1 z2 z3 z4 z5 z6 z7 z8 z9 z10 z11 z12 z13 z14 z15 z16 z17 z18 z19 z20) (by decide) ?_
      exact nx0 _ _ h
