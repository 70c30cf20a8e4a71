/-! 63: the class's object and the reference side by side: what holds between calls, and each call keeps it -/
def sR (T : TP) (P : RP) (Q : SP) (A : AP) (B E : BP) (Z : ZT) (sn : Nat) (X : Nat → Nat → Int32) : Prop :=
  Z.1 = T.1 ∧ tpR T (X 1) ∧ P.2.2.2.2.2.1 = Z.2.2.2.2.2.2.1 ∧ bRel B (X 11) ∧ hRel A sn (X 13) (X 11) ∧ okB E ∧ ∀ i, Q.2.2.2.2 30 i = 0
def LR (w : vWd) (D : DW) (a : Nat → Nat) (x y : va_W) : Prop :=
  ∃ (b c : DB) (T : TP) (P : RP) (G : GP) (Q : SP) (A : AP) (B E : BP) (th : Int32) (Z : ZT) (sn gs ps : Nat) (X : Nat → Nat → Int32), x = cD w D b c T P G Q A B E ∧ y = cG w a th Z sn gs ps X ∧ sR T P Q A B E Z sn X
/-- a call of the class and the same call of the reference: the same answer, and again such a pair -/
def PR (w : vWd) (D : DW) (a : Nat → Nat) (M M' : vMet) (d d' : Nat) (As : List Value) (x y : va_W) : Prop :=
  ∃ (v : Int32) (x' : va_W), Ct w M d 0 0 (.ref D.1 :: As) x (qE (some (.int v)) x') ∧ Ct w M' d' 0 0 (.ref (a 0) :: As) y (fun r y' => r = some (.int v) ∧ LR w D a x' y')
theorem LR.of {w : vWd} {D : DW} {a : Nat → Nat} {b c : DB} {T : TP} {P : RP} {G : GP} {Q : SP} {A : AP} {B E : BP} {th : Int32} {Z : ZT} {sn gs ps : Nat} {X : Nat → Nat → Int32} (h : sR T P Q A B E Z sn X) : LR w D a (cD w D b c T P G Q A B E) (cG w a th Z sn gs ps X) := ⟨b, c, T, P, G, Q, A, B, E, th, Z, sn, gs, ps, X, rfl, rfl, h⟩
theorem LR.recv {w : vWd} {D : DW} {a : Nat → Nat} {x y : va_W} (h : LR w D a x y) : (∃ fs, x[0]? = some (D.1, .inr (7, fs))) ∧ ∃ fs, y[0]? = some (a 0, .inr (8, fs)) := by
  obtain ⟨b, c, T, P, G, Q, A, B, E, th, Z, sn, gs, ps, X, rfl, rfl, hs⟩ := h
  exact ⟨⟨_, rfl⟩, ⟨_, rfl⟩⟩
theorem sR_same {T : TP} {P : RP} {Q : SP} {A : AP} {B E : BP} {Z : ZT} {sn : Nat} {X X' : Nat → Nat → Int32} (h : sR T P Q A B E Z sn X) (s : sameX X X') : sR T P Q A B E Z sn X' := by
  obtain ⟨h1, h2, h3, h4, h5, h6, h7⟩ := h
  obtain ⟨s1, s2, s3, s4, s5⟩ := s
  refine ⟨h1, ?_, h3, ?_, ?_, h6, h7⟩
  · rw [s1]; exact h2
  · rw [s2]; exact h4
  · rw [s2, s4]; exact h5
theorem zcPM {w : vWd} {D : DW} {a : Nat → Nat} {b c : DB} {T : TP} {P : RP} {G : GP} {Q : SP} {A : AP} {B E : BP} {th : Int32} {Z : ZT} {sn : Nat} {X : Nat → Nat → Int32} {v v' : Int32} {r : Option Value} {y : va_W} (hv : v' = v) (h : sR T P Q A B E Z sn X) (q : qM w a th Z sn X v' r y) : r = some (.int v) ∧ LR w D a (cD w D b c T P G Q A B E) y := by
  obtain ⟨q1, gs, ps, X', rfl, s⟩ := q
  rw [← hv]
  exact ⟨q1, LR.of (sR_same h s)⟩
theorem zcPE {w : vWd} {D : DW} {a : Nat → Nat} {b c : DB} {T : TP} {P : RP} {G : GP} {Q : SP} {A : AP} {B E : BP} {th : Int32} {Z : ZT} {sn gs ps : Nat} {X : Nat → Nat → Int32} {v v' : Int32} {r : Option Value} {y : va_W} (hv : v' = v) (h : sR T P Q A B E Z sn X) (q : qE (some (.int v')) (cG w a th Z sn gs ps X) r y) : r = some (.int v) ∧ LR w D a (cD w D b c T P G Q A B E) y := by
  obtain ⟨q1, rfl⟩ := q
  rw [← hv]
  exact ⟨q1, LR.of h⟩
section PRs
variable {w : vWd} {D : DW} {a : Nat → Nat} {x y : va_W}
theorem p_now (h : LR w D a x y) (k1 : Int32) : PR w D a mX7_now mX8_now 4 1 [.int k1] x y := by
  obtain ⟨b, c, T, P, G, Q, A, B, E, th, Z, sn, gs, ps, X, rfl, rfl, hs⟩ := h
  have hB := hs.2.2.2.1
  exact ⟨_, _, c_D_now w D b c T P G Q A B E k1 hB.1, (e_M_now w a th Z sn gs ps X k1 B.1 B.2.1 (rNl B) (rLa B) (r_okN hB) (rNp B) (rNg B) (rCr B) (rDe B) (rMv B) (rGr B) (r_okP hB)).imp (fun r z q => zcPM (by rw [hs.1, ← hs.2.2.2.2.1.1]; exact r_now hB T A k1) hs q)⟩
theorem p_change (h : LR w D a x y) (k1 k2 : Int32) : PR w D a mX7_change mX8_change 3 5 [.int k1, .int k2] x y := by
  obtain ⟨b, c, T, P, G, Q, A, B, E, th, Z, sn, gs, ps, X, rfl, rfl, hs⟩ := h
  have hB := hs.2.2.2.1
  exact ⟨_, _, c_D_change w D b c T P G Q A B E k1 k2 hB.1, (e_M_change w a th Z sn gs ps X k1 k2 B.1 B.2.1 (rNl B) (rLa B) (r_okN hB) (rNp B) (rNg B) (rCr B) (rDe B) (rMv B) (rGr B) (r_okP hB)).imp (fun r z q => zcPM (r_change hB k1 k2) hs q)⟩
theorem p_makes (h : LR w D a x y) (k1 k2 k3 : Int32) : PR w D a mX7_makes mX8_makes 4 13 [.int k1, .int k2, .int k3] x y := by
  obtain ⟨b, c, T, P, G, Q, A, B, E, th, Z, sn, gs, ps, X, rfl, rfl, hs⟩ := h
  have hB := hs.2.2.2.1
  exact ⟨_, _, c_D_makes w D b c T P G Q A B E k1 k2 k3 hB.1, (e_M_makes w a th Z sn gs ps X k1 k2 k3 B.1 B.2.1 (rNl B) (rLa B) (r_okN hB) (rNp B) (rNg B) (rCr B) (rDe B) (rMv B) (rGr B) (r_okP hB)).imp (fun r z q => zcPM (r_makes hB k1 k2 k3) hs q)⟩
theorem p_deals (h : LR w D a x y) (k1 k2 k3 k4 : Int32) : PR w D a mX7_deals mX8_deals 3 13 [.int k1, .int k2, .int k3, .int k4] x y := by
  obtain ⟨b, c, T, P, G, Q, A, B, E, th, Z, sn, gs, ps, X, rfl, rfl, hs⟩ := h
  have hB := hs.2.2.2.1
  exact ⟨_, _, c_D_deals w D b c T P G Q A B E k1 k2 k3 k4 hB.1, (e_M_deals w a th Z sn gs ps X k1 k2 k3 k4 B.1 B.2.1 (rNl B) (rLa B) (r_okN hB) (rNp B) (rNg B) (rCr B) (rDe B) (rMv B) (rGr B) (r_okP hB)).imp (fun r z q => zcPM (r_deals hB k1 k2 k3 k4) hs q)⟩
theorem p_balance (h : LR w D a x y) (k1 k2 : Int32) : PR w D a mX7_balance mX8_balance 4 5 [.int k1, .int k2] x y := by
  obtain ⟨b, c, T, P, G, Q, A, B, E, th, Z, sn, gs, ps, X, rfl, rfl, hs⟩ := h
  have hB := hs.2.2.2.1
  exact ⟨_, _, c_D_balance w D b c T P G Q A B E k1 k2 hB.1, (e_M_balance w a th Z sn gs ps X k1 k2 B.1 B.2.1 (rNl B) (rLa B) (r_okN hB) (rNp B) (rNg B) (rCr B) (rDe B) (rMv B) (rGr B) (r_okP hB)).imp (fun r z q => zcPM (r_balance hB k1 k2) hs q)⟩
theorem p_indirect (h : LR w D a x y) (k1 k2 k3 : Int32) : PR w D a mX7_indirect mX8_indirect 5 14 [.int k1, .int k2, .int k3] x y := by
  obtain ⟨b, c, T, P, G, Q, A, B, E, th, Z, sn, gs, ps, X, rfl, rfl, hs⟩ := h
  have hB := hs.2.2.2.1
  exact ⟨_, _, c_D_indirect w D b c T P G Q A B E k1 k2 k3 hB.1, (e_M_indirect w a th Z sn gs ps X k1 k2 k3 B.1 B.2.1 (rNl B) (rLa B) (r_okN hB) (rNp B) (rNg B) (rCr B) (rDe B) (rMv B) (rGr B) (r_okP hB)).imp (fun r z q => zcPM (r_indirect hB k1 k2 k3) hs q)⟩
theorem p_direct (h : LR w D a x y) (k1 k2 k3 k4 : Int32) : PR w D a mX7_direct mX8_direct 4 13 [.int k1, .int k2, .int k3, .int k4] x y := by
  obtain ⟨b, c, T, P, G, Q, A, B, E, th, Z, sn, gs, ps, X, rfl, rfl, hs⟩ := h
  have hB := hs.2.2.2.1
  exact ⟨_, _, c_D_direct w D b c T P G Q A B E k1 k2 k3 k4 hB.1, (e_M_direct w a th Z sn gs ps X k1 k2 k3 k4 B.1 B.2.1 (rNl B) (rLa B) (r_okN hB) (rNp B) (rNg B) (rCr B) (rDe B) (rMv B) (rGr B) (r_okP hB)).imp (fun r z q => zcPM (r_direct hB k1 k2 k3 k4) hs q)⟩
theorem p_piece (h : LR w D a x y) (k1 k2 k3 : Int32) : PR w D a mX7_piece mX8_piece 4 13 [.int k1, .int k2, .int k3] x y := by
  obtain ⟨b, c, T, P, G, Q, A, B, E, th, Z, sn, gs, ps, X, rfl, rfl, hs⟩ := h
  have hB := hs.2.2.2.1
  exact ⟨_, _, c_D_piece w D b c T P G Q A B E k1 k2 k3 hB.1, (e_M_piece w a th Z sn gs ps X k1 k2 k3 B.1 B.2.1 (rNl B) (rLa B) (r_okN hB) (rNp B) (rNg B) (rCr B) (rDe B) (rMv B) (rGr B) (r_okP hB)).imp (fun r z q => zcPM (r_piece hB k1 k2 k3) hs q)⟩
theorem p_post (h : LR w D a x y) (k1 k2 k3 k4 : Int32) : PR w D a mX7_post mX8_post 7 3 [.int k1, .int k2, .int k3, .int k4] x y := by
  obtain ⟨b, c, T, P, G, Q, A, B, E, th, Z, sn, gs, ps, X, rfl, rfl, hs⟩ := h
  obtain ⟨h1, h2, h3, hB, h5, h6, h7⟩ := hs
  obtain ⟨q1, q2, q3⟩ := r_post G hB h5 k1 k2 k3 k4
  refine ⟨_, _, c_D_post w D b c T P G Q A B E k1 k2 k3 k4 (by rw [h5.1]; exact h5.2.1) hB.1, (e_M_post w a th Z sn gs ps X k1 k2 k3 k4 B.1 B.2.1 (rNl B) (rLa B) (r_okN hB) h5.2.1).imp (fun r z q => ?_)⟩
  obtain ⟨g1, rfl⟩ := q
  exact ⟨by rw [g1, q1], LR.of ⟨h1, h2, h3, q2, q3, h6, h7⟩⟩
theorem p_more (h : LR w D a x y) (k1 k2 k3 k4 : Int32) : PR w D a mX7_more mX8_more 7 3 [.int k1, .int k2, .int k3, .int k4] x y := by
  obtain ⟨b, c, T, P, G, Q, A, B, E, th, Z, sn, gs, ps, X, rfl, rfl, hs⟩ := h
  obtain ⟨h1, h2, h3, hB, h5, h6, h7⟩ := hs
  obtain ⟨q1, q2, q3⟩ := r_more G hB h5 k1 k2 k3 k4
  refine ⟨_, _, c_D_more w D b c T P G Q A B E k1 k2 k3 k4 (by rw [h5.1]; exact h5.2.1) hB.1, (e_M_more w a th Z sn gs ps X k1 k2 k3 k4 B.1 B.2.1 (rNl B) (rLa B) (r_okN hB) h5.2.1).imp (fun r z q => ?_)⟩
  obtain ⟨g1, rfl⟩ := q
  exact ⟨by rw [g1, q1], LR.of ⟨h1, h2, h3, q2, q3, h6, h7⟩⟩
theorem p_strike (h : LR w D a x y) (k1 : Int32) : PR w D a mX7_strike mX8_strike 2 2 [.int k1] x y := by
  obtain ⟨b, c, T, P, G, Q, A, B, E, th, Z, sn, gs, ps, X, rfl, rfl, hs⟩ := h
  obtain ⟨h1, h2, h3, hB, h5, h6, h7⟩ := hs
  obtain ⟨q1, q2, q3⟩ := r_strike G hB h5 k1
  refine ⟨_, _, c_D_strike w D b c T P G Q A B E k1 (by rw [h5.1]; exact h5.2.1) hB.1, (e_M_strike w a th Z sn gs ps X k1 B.1 B.2.1 (rNl B) (rLa B) (r_okN hB) h5.2.1).imp (fun r z q => ?_)⟩
  obtain ⟨g1, rfl⟩ := q
  exact ⟨by rw [g1, q1], LR.of ⟨h1, h2, h3, q2, q3, h6, h7⟩⟩
theorem p_tell (h : LR w D a x y) (k1 k2 : Int32) : PR w D a mX7_tell mX8_tell 2 2 [.int k1, .int k2] x y := by
  obtain ⟨b, c, T, P, G, Q, A, B, E, th, Z, sn, gs, ps, X, rfl, rfl, hs⟩ := h
  obtain ⟨h1, h2, h3, hB, h5, h6, h7⟩ := hs
  obtain ⟨q1, q2, q3⟩ := r_tell G hB h5 k1 k2
  refine ⟨_, _, c_D_tell w D b c T P G Q A B E k1 k2 (by rw [h5.1]; exact h5.2.1) hB.1, (e_M_tell w a th Z sn gs ps X k1 k2 B.1 B.2.1 (rNl B) (rLa B) (r_okN hB) h5.2.1).imp (fun r z q => ?_)⟩
  obtain ⟨g1, rfl⟩ := q
  exact ⟨by rw [g1, q1], LR.of ⟨h1, h2, h3, q2, q3, h6, h7⟩⟩
theorem p_turn (h : LR w D a x y) (k1 k2 : Int32) : PR w D a mX7_turn mX8_turn 2 2 [.int k1, .int k2] x y := by
  obtain ⟨b, c, T, P, G, Q, A, B, E, th, Z, sn, gs, ps, X, rfl, rfl, hs⟩ := h
  obtain ⟨h1, h2, h3, hB, h5, h6, h7⟩ := hs
  obtain ⟨q1, q2, q3⟩ := r_turn G hB h5 k1 k2
  refine ⟨_, _, c_D_turn w D b c T P G Q A B E k1 k2 (by rw [h5.1]; exact h5.2.1) hB.1, (e_M_turn w a th Z sn gs ps X k1 k2 B.1 B.2.1 (rNl B) (rLa B) (r_okN hB) h5.2.1).imp (fun r z q => ?_)⟩
  obtain ⟨g1, rfl⟩ := q
  exact ⟨by rw [g1, q1], LR.of ⟨h1, h2, h3, q2, q3, h6, h7⟩⟩
theorem p_undo (h : LR w D a x y) : PR w D a mX7_undo mX8_undo 7 0 [] x y := by
  obtain ⟨b, c, T, P, G, Q, A, B, E, th, Z, sn, gs, ps, X, rfl, rfl, hs⟩ := h
  obtain ⟨h1, h2, h3, hB, h5, h6, h7⟩ := hs
  obtain ⟨q0, q1, q2, q3⟩ := r_undo G hB h5
  refine ⟨_, _, c_D_undo w D b c T P G Q A B E (by rw [h5.1]; exact h5.2.1) hB.1 (fun i j => q0 j i), (e_M_undo w a th Z sn gs ps X h5.2.1).imp (fun r z q => ?_)⟩
  obtain ⟨g1, rfl⟩ := q
  exact ⟨by rw [g1, q1], LR.of ⟨h1, h2, h3, q2, q3, h6, h7⟩⟩
theorem p_traced (h : LR w D a x y) : PR w D a mX7_traced mX8_traced 7 6 [] x y := by
  obtain ⟨b, c, T, P, G, Q, A, B, E, th, Z, sn, gs, ps, X, rfl, rfl, hs⟩ := h
  obtain ⟨h1, h2, h3, hB, h5, h6, h7⟩ := hs
  have hO : ∀ i, i < B.1 → cps (X 25) 0 (mRes (X 11) (rNl B) B.2.1) B.1 i = bRes B (nI i) := fun i hi => by
    rw [cps_at, if_pos ⟨by omega, by omega⟩]
    exact r_res hB hi
  refine ⟨_, _, c_D_traced w D b c T P G Q A B E hB.1, (e_M_traced w a th Z sn gs ps X B.1 B.2.1 (rNl B) (rLa B) (r_okN hB)).imp (fun r z q => ?_)⟩
  obtain ⟨g1, rfl⟩ := q
  exact ⟨by rw [g1, r_traced hB hO h7], LR.of ⟨h1, h2, h3, hB, h5, h6, tQ_30 h7⟩⟩
theorem p_fault (h : LR w D a x y) : PR w D a mX7_fault mX8_fault 1 0 [] x y := by
  obtain ⟨b, c, T, P, G, Q, A, B, E, th, Z, sn, gs, ps, X, rfl, rfl, hs⟩ := h
  exact ⟨_, _, c_D_fault w D b c T P G Q A B E, (e_M_fault w a th Z sn gs ps X).imp (fun r z q => zcPE (by rw [hs.2.2.1]) hs q)⟩
theorem p_end (h : LR w D a x y) (k1 : Int32) : PR w D a mX7_end mX8_end 1 0 [.int k1] x y := by
  obtain ⟨b, c, T, P, G, Q, A, B, E, th, Z, sn, gs, ps, X, rfl, rfl, hs⟩ := h
  obtain ⟨h1, h2, h3, hB, h5, h6, h7⟩ := hs
  have hT := h2.1
  have ei : tIn (Z.1, X 1) k1 = tIn T k1 := by
    show tIn (Z.1, X 1) k1 = tIn T k1
    unfold tIn
    rw [h1]
  refine ⟨_, _, c_D_end w D b c T P G Q A B E k1 hT, (c_M_end w a th Z.1 Z.2.1 Z.2.2.1 Z.2.2.2.1 Z.2.2.2.2.1 Z.2.2.2.2.2.1 Z.2.2.2.2.2.2.1 Z.2.2.2.2.2.2.2.1 Z.2.2.2.2.2.2.2.2.1 sn Z.2.2.2.2.2.2.2.2.2 gs ps X k1 (by rw [h1]; exact hT)).imp (fun r z q => ?_)⟩
  obtain ⟨q1, q2⟩ := q
  rw [ei] at q1 q2
  refine ⟨q1, ?_⟩
  by_cases ht : tIn T k1 = true
  · rw [if_pos ht] at q2
    rw [if_pos ht, q2]
    have hn : k1.toNatClampNeg ≤ T.1 := by
      obtain ⟨j, e, hj⟩ := tIn_true hT ht
      rw [e, nI_clamp (by omega)]
      exact hj
    exact LR.of (Z := (k1.toNatClampNeg, Z.2)) ⟨rfl, tpR_end h2 hn, h3, hB, h5, h6, h7⟩
  · rw [if_neg ht] at q2
    rw [if_neg ht, q2]
    exact LR.of (Z := Z) ⟨h1, h2, h3, hB, h5, h6, h7⟩
theorem p_feed (h : LR w D a x y) (k1 k2 k3 k4 k5 : Int32) : PR w D a mX7_feed mX8_feed 1 1 [.int k1, .int k2, .int k3, .int k4, .int k5] x y := by
  obtain ⟨b, c, T, P, G, Q, A, B, E, th, Z, sn, gs, ps, X, rfl, rfl, hs⟩ := h
  obtain ⟨h1, h2, h3, hB, h5, h6, h7⟩ := hs
  have hT := h2.1
  refine ⟨_, _, c_D_feed w D b c T P G Q A B E k1 k2 k3 k4 k5 hT, (c_M_feed w a th Z.1 Z.2.1 Z.2.2.1 Z.2.2.2.1 Z.2.2.2.2.1 Z.2.2.2.2.2.1 Z.2.2.2.2.2.2.1 Z.2.2.2.2.2.2.2.1 Z.2.2.2.2.2.2.2.2.1 sn Z.2.2.2.2.2.2.2.2.2 gs ps X k1 k2 k3 k4 k5 (by rw [h1]; exact hT)).imp (fun r z q => ?_)⟩
  obtain ⟨q1, q2⟩ := q
  rw [h1] at q1 q2
  by_cases ht : 620 < T.1
  · rw [if_neg (by omega)] at q1 q2
    rw [if_pos ht, q2]
    refine ⟨q1, ?_⟩
    have e : dFee T k1 k2 k3 k4 k5 = T := by unfold dFee; rw [if_pos ht]
    rw [e]
    exact LR.of (Z := (T.1, Z.2)) ⟨rfl, h2, h3, hB, h5, h6, h7⟩
  · rw [if_pos (by omega)] at q1 q2
    rw [if_neg ht, q2]
    refine ⟨q1, ?_⟩
    have e : dFee T k1 k2 k3 k4 k5 = tApp (tApp (tApp (tApp (tApp T k1) k2) k3) k4) k5 := by unfold dFee; rw [if_neg ht]
    rw [e]
    exact LR.of (Z := (T.1 + 20, Z.2)) ⟨rfl, tpR_feed h2 (by omega) k1 k2 k3 k4 k5, h3, hB, h5, h6, h7⟩
theorem p_text (h : LR w D a x y) : PR w D a mX7_text mX8_text 8 7 [] x y := by
  obtain ⟨b, c, T, P, G, Q, A, B, E, th, Z, sn, gs, ps, X, rfl, rfl, hs⟩ := h
  obtain ⟨h1, h2, h3, hB, h5, h6, h7⟩ := hs
  have hT := h2.1
  have hR : okB (rdW T P E).2.2 := okB_rdW h6
  obtain ⟨e1, e2, e3, e4⟩ := rd_eq (P := P) h2 h6 h1 (X 12)
  have hm := e_M_text w a th Z sn gs ps X (by rw [h1]; exact hT)
  generalize mTx (X 1) Z (X 12) = m at e1 e2 e3 e4 hm
  have hd := c_D_text w D b c T P G Q A B E hT h6 hR (fun t n hn => ((e2 (e1.symm.trans t)).2.2.2.2.2.1 n hn).2.2.2.2.2.1)
  refine ⟨_, _, hd, hm.imp (fun r z q => ?_)⟩
  obtain ⟨q1, q2⟩ := q
  by_cases ht : m.1 = true
  · have hb := e2 ht
    rw [e1, if_pos ht, if_pos ht, q1, q2]
    have b0 := hb.2.2.1
    have b1 := hb.2.2.2.1
    have b12 := hb.1.1
    have b13 := hb.2.1
    have c0 : txN (X 11) m.2 0 = rdO m.2 0 := by
      show cps (X 11) 0 (rdO m.2) 500 0 = _
      rw [cps_at, if_pos ⟨by omega, by omega⟩]
    have c1 : txN (X 11) m.2 1 = rdO m.2 1 := by
      show cps (X 11) 0 (rdO m.2) 500 1 = _
      rw [cps_at, if_pos ⟨by omega, by omega⟩]
    refine ⟨?_, ?_⟩
    · unfold txA
      rw [if_pos ht, c0, c1, b0, b1, nI_add]
    · rw [if_pos ht]
      unfold txX
      rw [if_pos ht]
      have hN : bRel (tSt (rdW T P E).2.2 G (rdW T P E).2.2.2.1).2 (txN (X 11) m.2) := bRel_cg (fun k hk => by
        show cps (X 11) 0 (rdO m.2) 500 k = _
        rw [cps_at, if_pos ⟨by omega, by omega⟩, Nat.sub_zero]) (rdB_settled hb G)
      exact LR.of ⟨rfl, ⟨Nat.zero_le _, fun k hk => absurd hk (Nat.not_lt_zero k)⟩, e3, hN, ⟨rfl, Nat.zero_le _, fun n hn => absurd hn (Nat.not_lt_zero n)⟩, hB.1, h7⟩
  · have hf : m.1 = false := by cases hq : m.1 with
      | true => exact absurd hq ht
      | false => rfl
    rw [e1, if_neg ht, if_neg ht, q1, q2]
    refine ⟨?_, ?_⟩
    · unfold txA
      rw [if_neg ht, e4 hf]
    · rw [if_neg ht]
      unfold txX
      rw [if_neg ht]
      exact LR.of ⟨rfl, ⟨Nat.zero_le _, fun k hk => absurd hk (Nat.not_lt_zero k)⟩, e3, hB, h5, hR, h7⟩
end PRs
