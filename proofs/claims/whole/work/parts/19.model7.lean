/-! 19: the reference: figures out of pieces -/
section
variable {w : vWd} {M : vMet} {C : vCtx} {k n pc : Nat} {L : List (Nat × Value)} {st : List Value} {ws : va_W}
variable {M' : vMet} {na idx d b q0 ci : Nat} {As rest : List Value} {Q : Option Value → va_W → Prop} {fs : List Value} {cl : vw_C}
/-- a call of an own method over all the cells, whatever they are behind it -/
theorem V_selfQ (hd : vdec M pc (.invokevirtual idx) 3) (hl : vLk M.1.cls idx M' na) (hC : Ct w M' d 0 0 (.ref b :: As) ws Q) (hna : As.length = na) (hst : st = As.reverse ++ .ref b :: rest) (q0 : Nat) (hrc : ws[q0]? = some (b, .inr (ci, fs))) (hcl : vwCl[ci]? = some cl) (hc1 : cl.1 = M'.1.cls) (hR : vchk C.1 d M'.2.2.1 k n rest = true)
    (h : ∀ (r : Option Value) (w1 : va_W), Q r w1 → V w M C k n (pc + 3) L (r.toList ++ rest) w1) : V w M C k n pc L st ws :=
  V_virt (wr := []) hd hl hC hna hst (vchk_of hR).2.2 (by simp) q0 hrc hcl hc1 (vchk_of hR).1 (vchk_of hR).2.1 (fun r w1 hq => V.perm (by simp) (h r w1 hq))
end
theorem Ct.imp {w : vWd} {M : vMet} {d mc ms : Nat} {args : List Value} {ws : va_W} {Q Q' : Option Value → va_W → Prop} (h : Ct w M d mc ms args ws Q) (hq : ∀ r x, Q r x → Q' r x) : Ct w M d mc ms args ws Q' := by
  intro sz
  have h1 := h sz
  intro p e ha hc hk s m a below hf happ hP hK
  obtain ⟨t, o, q1, q2, q3, ⟨⟨⟨r, x, e1, e2, e3, e4⟩, e5⟩, q4⟩⟩ := h1 p e ha hc hk s m a below hf happ hP hK
  exact ⟨t, o, q1, q2, q3, ⟨⟨⟨r, x, e1, hq r x e2, e3, e4⟩, e5⟩, q4⟩⟩
/-- the rows that laysPieces leaves as they are -/
def sameX (X X' : Nat → Nat → Int32) : Prop := X' 1 = X 1 ∧ X' 11 = X 11 ∧ X' 12 = X 12 ∧ X' 13 = X 13 ∧ X' 25 = X 25
theorem sameX.rf (X : Nat → Nat → Int32) : sameX X X := ⟨rfl, rfl, rfl, rfl, rfl⟩
theorem sameX.tr {X Y Z : Nat → Nat → Int32} (h : sameX X Y) (g : sameX Y Z) : sameX X Z := ⟨g.1.trans h.1, g.2.1.trans h.2.1, g.2.2.1.trans h.2.2.1, g.2.2.2.1.trans h.2.2.2.1, g.2.2.2.2.trans h.2.2.2.2⟩
/-- what laysPieces finds of the journals of a row of numbers: pieces (np; credited, debited, moved), groups (ng; of each line) -/
def okP (N : Nat → Int32) (na nj : Nat) (nl np ng : Nat → Nat) (cr de : Nat → Nat → Nat) (mv gr : Nat → Nat → Int32) : Prop :=
  (∀ j, j < nj → np j ≤ 6 ∧ ng j ≤ 6) ∧ (∀ j k, j < nj → k < np j → cr j k < na ∧ de j k < na) ∧ ∀ X : Nat → Nat → Int32, X 11 = N → ∀ j, j < nj → (lpS X (nl j) j).2.1 = np j ∧ (lpT X (nl j) j).2.2.1 = ng j ∧ (∀ k, k < np j → (lpS X (nl j) j).2.2.1 k = nI (cr j k) ∧ (lpS X (nl j) j).2.2.2.1 k = nI (de j k) ∧ (lpS X (nl j) j).2.2.2.2 k = mv j k) ∧ ∀ k, k < nl j → (lpT X (nl j) j).2.2.2 k = gr j k
def qLP (w : vWd) (a : Nat → Nat) (th : Int32) (Z : ZT) (sn : Nat) (X : Nat → Nat → Int32) (n p g : Nat) (c d : Nat → Nat) (v r : Nat → Int32) : Option Value → va_W → Prop := fun q x => q = none ∧ ∃ X' : Nat → Nat → Int32, x = cG w a th Z sn g p X' ∧ sameX X X' ∧ (∀ k, k < p → X' 20 k = nI (c k) ∧ X' 21 k = nI (d k) ∧ X' 22 k = v k) ∧ ∀ k, k < n → X' 17 k = r k

theorem e_M_lp (w : vWd) (a : Nat → Nat) (th : Int32) (Z : ZT) (sn gs ps : Nat) (X : Nat → Nat → Int32) (j : Nat) (na nj : Nat) (nl : Nat → Nat) (ac : Nat → Nat → Nat) (hN : okN (X 11) na nj nl ac) (hj : j < nj) (np ng : Nat → Nat) (cr de : Nat → Nat → Nat) (mv gr : Nat → Nat → Int32) (hP : okP (X 11) na nj nl np ng cr de mv gr) : Ct w mX8_laysPieces 12 0 0 [.ref (a 0), .int (nI j)] (cG w a th Z sn gs ps X) (qLP w a th Z sn X (nl j) (np j) (ng j) (cr j) (de j) (mv j) (gr j)) := by
  refine Ct.imp (e_M_laysPieces w a th Z sn gs ps X j na nj nl ac hN hj) ?_
  rintro r x ⟨rfl, rfl⟩
  obtain ⟨h1, h2, h3, h4⟩ := hP.2.2 X rfl j hj
  refine ⟨rfl, uX (uX (uX (uX (uX (uX (uX X 16 (lpT X (nl j) j).1) 17 (lpT X (nl j) j).2.2.2) 18 (lpT X (nl j) j).2.1) 23 (lpS X (nl j) j).1) 20 (lpS X (nl j) j).2.2.1) 21 (lpS X (nl j) j).2.2.2.1) 22 (lpS X (nl j) j).2.2.2.2, by rw [← h1, ← h2]; rfl, ⟨rfl, rfl, rfl, rfl, rfl⟩, ?_, ?_⟩
  · exact h3
  · exact h4

def mCls (kc kd : Int32) : Int32 := if kc = 0 ∧ kd = 0 then 5 else if kc ≠ 0 ∧ kd ≠ 0 then 4 else if (if kc = 0 then kd else kc) ≤ 2 then 0 else (if kc = 0 then kd else kc) - 2

set_option maxRecDepth 100000 in
set_option maxHeartbeats 4000000 in
theorem e_M_classOf (w : vWd) (a : Nat → Nat) (th : Int32) (Z : ZT) (sn gs ps : Nat) (X : Nat → Nat → Int32) (k c d : Nat) (hk : k < 6) (hc : X 20 k = nI c) (hd : X 21 k = nI d) (hc2 : c < 12) (hd2 : d < 12) : Ct w mX8_classOf 2 0 0 [.ref (a 0), .int (nI k)] (cG w a th Z sn gs ps X) (qE (some (.int (mCls (X 11 (2 + 4 * c)) (X 11 (2 + 4 * d))))) (cG w a th Z sn gs ps X)) := by
  refine Ct.of (L := [(0, .ref (a 0)), (1, .int (nI k))]) (by decide) rfl rfl ?_
  refine V_aload_n dX8_classOf_0 0 rfl ?_
  refine V_aload_n dX8_classOf_1 0 rfl ?_
  refine V_get dX8_classOf_2 fX8_94 0 rfl rfl ?_
  refine V_iload_n dX8_classOf_5 1 rfl ?_
  refine V_iald dX8_classOf_6 8 rfl rfl k rfl (by omega) ?_
  refine V_casti (y := nI c) hc ?_
  refine V_selfR dX8_classOf_7 lX8_203 (e_M_kindOf w a th Z sn gs ps X c (by omega)) rfl rfl 0 rfl rfl rfl rfl ?_
  refine V_istore_n dX8_classOf_10 rfl (L' := [(0, .ref (a 0)), (1, .int (nI k)), (2, .int (X 11 (2 + 4 * c)))]) rfl ?_
  refine V_aload_n dX8_classOf_11 0 rfl ?_
  refine V_aload_n dX8_classOf_12 0 rfl ?_
  refine V_get dX8_classOf_13 fX8_97 0 rfl rfl ?_
  refine V_iload_n dX8_classOf_16 1 rfl ?_
  refine V_iald dX8_classOf_17 9 rfl rfl k rfl (by omega) ?_
  refine V_casti (y := nI d) hd ?_
  refine V_selfR dX8_classOf_18 lX8_203 (e_M_kindOf w a th Z sn gs ps X d (by omega)) rfl rfl 0 rfl rfl rfl rfl ?_
  refine V_istore_n dX8_classOf_21 rfl (L' := [(0, .ref (a 0)), (1, .int (nI k)), (2, .int (X 11 (2 + 4 * c))), (3, .int (X 11 (2 + 4 * d)))]) rfl ?_
  refine V_iload_n dX8_classOf_22 2 rfl ?_
  refine V_if_ne 32 dX8_classOf_23 (by decide) (fun zc1 => ?_) (fun zc1 => ?_)
  · refine V_iload_n dX8_classOf_32 2 rfl ?_
    refine V_if_eq 42 dX8_classOf_33 (by decide) (fun zc2 => ?_) (fun zc2 => ?_)
    · refine V_iload_n dX8_classOf_42 2 rfl ?_
      refine V_if_ne 50 dX8_classOf_43 (by decide) (fun zc3 => ?_) (fun zc3 => ?_)
      · refine V_iload_n dX8_classOf_50 2 rfl ?_
        refine V_istore dX8_classOf_51 rfl (L' := [(0, .ref (a 0)), (1, .int (nI k)), (2, .int (X 11 (2 + 4 * c))), (3, .int (X 11 (2 + 4 * d))), (4, .int (X 11 (2 + 4 * c)))]) rfl ?_
        refine V_iload dX8_classOf_53 4 rfl ?_
        refine V_iconst 2 dX8_classOf_55 (by decide) ?_
        refine V_icmp_gt 63 dX8_classOf_56 (by decide) (fun zc4 => ?_) (fun zc4 => ?_)
        · refine V_iload dX8_classOf_63 4 rfl ?_
          refine V_iconst 2 dX8_classOf_65 (by decide) ?_
          refine V_isub dX8_classOf_66 ?_
          exact V_iret dX8_classOf_67 rfl (nb rfl) (nb rfl) ⟨by clear hc hd; grind [mCls], rfl⟩
        · refine V_iconst 0 dX8_classOf_59 (by decide) ?_
          refine V_goto 67 dX8_classOf_60 (by decide) ?_
          exact V_iret dX8_classOf_67 rfl (nb rfl) (nb rfl) ⟨by clear hc hd; grind [mCls], rfl⟩
      · refine V_iload_n dX8_classOf_46 3 rfl ?_
        refine V_goto 51 dX8_classOf_47 (by decide) ?_
        refine V_istore dX8_classOf_51 rfl (L' := [(0, .ref (a 0)), (1, .int (nI k)), (2, .int (X 11 (2 + 4 * c))), (3, .int (X 11 (2 + 4 * d))), (4, .int (X 11 (2 + 4 * d)))]) rfl ?_
        refine V_iload dX8_classOf_53 4 rfl ?_
        refine V_iconst 2 dX8_classOf_55 (by decide) ?_
        refine V_icmp_gt 63 dX8_classOf_56 (by decide) (fun zc5 => ?_) (fun zc5 => ?_)
        · refine V_iload dX8_classOf_63 4 rfl ?_
          refine V_iconst 2 dX8_classOf_65 (by decide) ?_
          refine V_isub dX8_classOf_66 ?_
          exact V_iret dX8_classOf_67 rfl (nb rfl) (nb rfl) ⟨by clear hc hd; grind [mCls], rfl⟩
        · refine V_iconst 0 dX8_classOf_59 (by decide) ?_
          refine V_goto 67 dX8_classOf_60 (by decide) ?_
          exact V_iret dX8_classOf_67 rfl (nb rfl) (nb rfl) ⟨by clear hc hd; grind [mCls], rfl⟩
    · refine V_iload_n dX8_classOf_36 3 rfl ?_
      refine V_if_eq 42 dX8_classOf_37 (by decide) (fun zc6 => ?_) (fun zc6 => ?_)
      · refine V_iload_n dX8_classOf_42 2 rfl ?_
        refine V_if_ne 50 dX8_classOf_43 (by decide) (fun zc7 => ?_) (fun zc7 => ?_)
        · refine V_iload_n dX8_classOf_50 2 rfl ?_
          refine V_istore dX8_classOf_51 rfl (L' := [(0, .ref (a 0)), (1, .int (nI k)), (2, .int (X 11 (2 + 4 * c))), (3, .int (X 11 (2 + 4 * d))), (4, .int (X 11 (2 + 4 * c)))]) rfl ?_
          refine V_iload dX8_classOf_53 4 rfl ?_
          refine V_iconst 2 dX8_classOf_55 (by decide) ?_
          refine V_icmp_gt 63 dX8_classOf_56 (by decide) (fun zc8 => ?_) (fun zc8 => ?_)
          · refine V_iload dX8_classOf_63 4 rfl ?_
            refine V_iconst 2 dX8_classOf_65 (by decide) ?_
            refine V_isub dX8_classOf_66 ?_
            exact V_iret dX8_classOf_67 rfl (nb rfl) (nb rfl) ⟨by clear hc hd; grind [mCls], rfl⟩
          · refine V_iconst 0 dX8_classOf_59 (by decide) ?_
            refine V_goto 67 dX8_classOf_60 (by decide) ?_
            exact V_iret dX8_classOf_67 rfl (nb rfl) (nb rfl) ⟨by clear hc hd; grind [mCls], rfl⟩
        · refine V_iload_n dX8_classOf_46 3 rfl ?_
          refine V_goto 51 dX8_classOf_47 (by decide) ?_
          refine V_istore dX8_classOf_51 rfl (L' := [(0, .ref (a 0)), (1, .int (nI k)), (2, .int (X 11 (2 + 4 * c))), (3, .int (X 11 (2 + 4 * d))), (4, .int (X 11 (2 + 4 * d)))]) rfl ?_
          refine V_iload dX8_classOf_53 4 rfl ?_
          refine V_iconst 2 dX8_classOf_55 (by decide) ?_
          refine V_icmp_gt 63 dX8_classOf_56 (by decide) (fun zc9 => ?_) (fun zc9 => ?_)
          · refine V_iload dX8_classOf_63 4 rfl ?_
            refine V_iconst 2 dX8_classOf_65 (by decide) ?_
            refine V_isub dX8_classOf_66 ?_
            exact V_iret dX8_classOf_67 rfl (nb rfl) (nb rfl) ⟨by clear hc hd; grind [mCls], rfl⟩
          · refine V_iconst 0 dX8_classOf_59 (by decide) ?_
            refine V_goto 67 dX8_classOf_60 (by decide) ?_
            exact V_iret dX8_classOf_67 rfl (nb rfl) (nb rfl) ⟨by clear hc hd; grind [mCls], rfl⟩
      · refine V_iconst 4 dX8_classOf_40 (by decide) ?_
        exact V_iret dX8_classOf_41 rfl (nb rfl) (nb rfl) ⟨by clear hc hd; grind [mCls], rfl⟩
  · refine V_iload_n dX8_classOf_26 3 rfl ?_
    refine V_if_ne 32 dX8_classOf_27 (by decide) (fun zc10 => ?_) (fun zc10 => ?_)
    · refine V_iload_n dX8_classOf_32 2 rfl ?_
      refine V_if_eq 42 dX8_classOf_33 (by decide) (fun zc11 => ?_) (fun zc11 => ?_)
      · refine V_iload_n dX8_classOf_42 2 rfl ?_
        refine V_if_ne 50 dX8_classOf_43 (by decide) (fun zc12 => ?_) (fun zc12 => ?_)
        · refine V_iload_n dX8_classOf_50 2 rfl ?_
          refine V_istore dX8_classOf_51 rfl (L' := [(0, .ref (a 0)), (1, .int (nI k)), (2, .int (X 11 (2 + 4 * c))), (3, .int (X 11 (2 + 4 * d))), (4, .int (X 11 (2 + 4 * c)))]) rfl ?_
          refine V_iload dX8_classOf_53 4 rfl ?_
          refine V_iconst 2 dX8_classOf_55 (by decide) ?_
          refine V_icmp_gt 63 dX8_classOf_56 (by decide) (fun zc13 => ?_) (fun zc13 => ?_)
          · refine V_iload dX8_classOf_63 4 rfl ?_
            refine V_iconst 2 dX8_classOf_65 (by decide) ?_
            refine V_isub dX8_classOf_66 ?_
            exact V_iret dX8_classOf_67 rfl (nb rfl) (nb rfl) ⟨by clear hc hd; grind [mCls], rfl⟩
          · refine V_iconst 0 dX8_classOf_59 (by decide) ?_
            refine V_goto 67 dX8_classOf_60 (by decide) ?_
            exact V_iret dX8_classOf_67 rfl (nb rfl) (nb rfl) ⟨by clear hc hd; grind [mCls], rfl⟩
        · refine V_iload_n dX8_classOf_46 3 rfl ?_
          refine V_goto 51 dX8_classOf_47 (by decide) ?_
          refine V_istore dX8_classOf_51 rfl (L' := [(0, .ref (a 0)), (1, .int (nI k)), (2, .int (X 11 (2 + 4 * c))), (3, .int (X 11 (2 + 4 * d))), (4, .int (X 11 (2 + 4 * d)))]) rfl ?_
          refine V_iload dX8_classOf_53 4 rfl ?_
          refine V_iconst 2 dX8_classOf_55 (by decide) ?_
          refine V_icmp_gt 63 dX8_classOf_56 (by decide) (fun zc14 => ?_) (fun zc14 => ?_)
          · refine V_iload dX8_classOf_63 4 rfl ?_
            refine V_iconst 2 dX8_classOf_65 (by decide) ?_
            refine V_isub dX8_classOf_66 ?_
            exact V_iret dX8_classOf_67 rfl (nb rfl) (nb rfl) ⟨by clear hc hd; grind [mCls], rfl⟩
          · refine V_iconst 0 dX8_classOf_59 (by decide) ?_
            refine V_goto 67 dX8_classOf_60 (by decide) ?_
            exact V_iret dX8_classOf_67 rfl (nb rfl) (nb rfl) ⟨by clear hc hd; grind [mCls], rfl⟩
      · refine V_iload_n dX8_classOf_36 3 rfl ?_
        refine V_if_eq 42 dX8_classOf_37 (by decide) (fun zc15 => ?_) (fun zc15 => ?_)
        · refine V_iload_n dX8_classOf_42 2 rfl ?_
          refine V_if_ne 50 dX8_classOf_43 (by decide) (fun zc16 => ?_) (fun zc16 => ?_)
          · refine V_iload_n dX8_classOf_50 2 rfl ?_
            refine V_istore dX8_classOf_51 rfl (L' := [(0, .ref (a 0)), (1, .int (nI k)), (2, .int (X 11 (2 + 4 * c))), (3, .int (X 11 (2 + 4 * d))), (4, .int (X 11 (2 + 4 * c)))]) rfl ?_
            refine V_iload dX8_classOf_53 4 rfl ?_
            refine V_iconst 2 dX8_classOf_55 (by decide) ?_
            refine V_icmp_gt 63 dX8_classOf_56 (by decide) (fun zc17 => ?_) (fun zc17 => ?_)
            · refine V_iload dX8_classOf_63 4 rfl ?_
              refine V_iconst 2 dX8_classOf_65 (by decide) ?_
              refine V_isub dX8_classOf_66 ?_
              exact V_iret dX8_classOf_67 rfl (nb rfl) (nb rfl) ⟨by clear hc hd; grind [mCls], rfl⟩
            · refine V_iconst 0 dX8_classOf_59 (by decide) ?_
              refine V_goto 67 dX8_classOf_60 (by decide) ?_
              exact V_iret dX8_classOf_67 rfl (nb rfl) (nb rfl) ⟨by clear hc hd; grind [mCls], rfl⟩
          · refine V_iload_n dX8_classOf_46 3 rfl ?_
            refine V_goto 51 dX8_classOf_47 (by decide) ?_
            refine V_istore dX8_classOf_51 rfl (L' := [(0, .ref (a 0)), (1, .int (nI k)), (2, .int (X 11 (2 + 4 * c))), (3, .int (X 11 (2 + 4 * d))), (4, .int (X 11 (2 + 4 * d)))]) rfl ?_
            refine V_iload dX8_classOf_53 4 rfl ?_
            refine V_iconst 2 dX8_classOf_55 (by decide) ?_
            refine V_icmp_gt 63 dX8_classOf_56 (by decide) (fun zc18 => ?_) (fun zc18 => ?_)
            · refine V_iload dX8_classOf_63 4 rfl ?_
              refine V_iconst 2 dX8_classOf_65 (by decide) ?_
              refine V_isub dX8_classOf_66 ?_
              exact V_iret dX8_classOf_67 rfl (nb rfl) (nb rfl) ⟨by clear hc hd; grind [mCls], rfl⟩
            · refine V_iconst 0 dX8_classOf_59 (by decide) ?_
              refine V_goto 67 dX8_classOf_60 (by decide) ?_
              exact V_iret dX8_classOf_67 rfl (nb rfl) (nb rfl) ⟨by clear hc hd; grind [mCls], rfl⟩
        · refine V_iconst 4 dX8_classOf_40 (by decide) ?_
          exact V_iret dX8_classOf_41 rfl (nb rfl) (nb rfl) ⟨by clear hc hd; grind [mCls], rfl⟩
    · refine V_iconst 5 dX8_classOf_30 (by decide) ?_
      exact V_iret dX8_classOf_31 rfl (nb rfl) (nb rfl) ⟨by clear hc hd; grind [mCls], rfl⟩

def arP (x y : Int32) : Bool := isInB x 0 19 && isInB y x 19

set_option maxRecDepth 100000 in
set_option maxHeartbeats 4000000 in
theorem c_M_arePeriods (w : vWd) (x y : Int32) : Ct w mX8_arePeriods 1 0 0 [.int x, .int y] ([]) (qE (some (.int (bi (arP x y)))) []) := by
  refine Ct.of (L := [(0, .int x), (1, .int y)]) (by decide) rfl rfl ?_
  refine V_iload_n dX8_arePeriods_0 0 rfl ?_
  refine V_iconst 0 dX8_arePeriods_1 (by decide) ?_
  refine V_bipush 19 dX8_arePeriods_2 (by decide) ?_
  refine V_purS dX8_arePeriods_4 lX8_112 (c_M_isIn w x 0 19) rfl rfl rfl ?_
  refine V_ifeq_b 24 dX8_arePeriods_7 (by decide) (fun zc1 => ?_) (fun zc1 => ?_)
  · refine V_iconst 0 dX8_arePeriods_24 (by decide) ?_
    exact V_zret dX8_arePeriods_25 rfl rfl (nb rfl) (nb rfl) ⟨by grind [arP, bi], rfl⟩
  · refine V_iload_n dX8_arePeriods_10 1 rfl ?_
    refine V_iload_n dX8_arePeriods_11 0 rfl ?_
    refine V_bipush 19 dX8_arePeriods_12 (by decide) ?_
    refine V_purS dX8_arePeriods_14 lX8_112 (c_M_isIn w y x 19) rfl rfl rfl ?_
    refine V_ifeq_b 24 dX8_arePeriods_17 (by decide) (fun zc2 => ?_) (fun zc2 => ?_)
    · refine V_iconst 0 dX8_arePeriods_24 (by decide) ?_
      exact V_zret dX8_arePeriods_25 rfl rfl (nb rfl) (nb rfl) ⟨by grind [arP, bi], rfl⟩
    · refine V_iconst 1 dX8_arePeriods_20 (by decide) ?_
      refine V_goto 25 dX8_arePeriods_21 (by decide) ?_
      exact V_zret dX8_arePeriods_25 rfl rfl (nb rfl) (nb rfl) ⟨by grind [arP, bi], rfl⟩

set_option maxRecDepth 100000 in
set_option maxHeartbeats 4000000 in
theorem c_M_isClass (w : vWd) (x : Int32) : Ct w mX8_isClass 1 0 0 [.int x] ([]) (qE (some (.int (bi (isInB x 0 3)))) []) := by
  refine Ct.of (L := [(0, .int x)]) (by decide) rfl rfl ?_
  refine V_iload_n dX8_isClass_0 0 rfl ?_
  refine V_iconst 0 dX8_isClass_1 (by decide) ?_
  refine V_iconst 3 dX8_isClass_2 (by decide) ?_
  refine V_purS dX8_isClass_3 lX8_112 (c_M_isIn w x 0 3) rfl rfl rfl ?_
  exact V_bret dX8_isClass_6 rfl (nb rfl) (nb rfl) ⟨rfl, rfl⟩

set_option maxRecDepth 100000 in
set_option maxHeartbeats 4000000 in
theorem c_M_isOfProfit (w : vWd) (x : Int32) : Ct w mX8_isOfProfit 0 0 0 [.int x] ([]) (qE (some (.int (bi (decide (x = 1 ∨ x = 2))))) []) := by
  refine Ct.of (L := [(0, .int x)]) (by decide) rfl rfl ?_
  refine V_iload_n dX8_isOfProfit_0 0 rfl ?_
  refine V_iconst 1 dX8_isOfProfit_1 (by decide) ?_
  refine V_icmp_eq 10 dX8_isOfProfit_2 (by decide) (fun zc1 => ?_) (fun zc1 => ?_)
  · refine V_iconst 1 dX8_isOfProfit_10 (by decide) ?_
    refine V_goto 15 dX8_isOfProfit_11 (by decide) ?_
    exact V_zret dX8_isOfProfit_15 rfl rfl (nb rfl) (nb rfl) ⟨by grind [bi], rfl⟩
  · refine V_iload_n dX8_isOfProfit_5 0 rfl ?_
    refine V_iconst 2 dX8_isOfProfit_6 (by decide) ?_
    refine V_icmp_ne 14 dX8_isOfProfit_7 (by decide) (fun zc2 => ?_) (fun zc2 => ?_)
    · refine V_iconst 0 dX8_isOfProfit_14 (by decide) ?_
      exact V_zret dX8_isOfProfit_15 rfl rfl (nb rfl) (nb rfl) ⟨by grind [bi], rfl⟩
    · refine V_iconst 1 dX8_isOfProfit_10 (by decide) ?_
      refine V_goto 15 dX8_isOfProfit_11 (by decide) ?_
      exact V_zret dX8_isOfProfit_15 rfl rfl (nb rfl) (nb rfl) ⟨by grind [bi], rfl⟩

set_option maxRecDepth 100000 in
set_option maxHeartbeats 4000000 in
theorem lpi_M_makes (w : vWd) (a : Nat → Nat) (th : Int32) (Z : ZT) (sn : Nat) (X0 : Nat → Nat → Int32) (N0 : Nat → Int32) (h11 : X0 11 = N0) (so : Int32) (f : Int32) (t : Int32) (na nj : Nat) (nl : Nat → Nat) (ac : Nat → Nat → Nat) (hN0 : okN N0 na nj nl ac) (np ng : Nat → Nat) (cr de : Nat → Nat → Nat) (mv gr : Nat → Nat → Int32) (hP0 : okP N0 na nj nl np ng cr de mv gr) (j : Nat) (hj : j < nj) (z0 : Int32) (X : Nat → Nat → Int32) (hX : sameX X0 X) (hpc : ∀ k, k < np j → X 20 k = nI (cr j k) ∧ X 21 k = nI (de j k) ∧ X 22 k = mv j k) (hnx : V w mX8_makes (vc w 13 0 0 (fun r x => r = some (.int ((iorf (fun j => if mCnt N0 j f t then iorf (fun k => if mCls (N0 (2 + 4 * cr j k)) (N0 (2 + 4 * de j k)) = so then (1 : Int32) <<< (nI j &&& 31) else 0) (np j) else 0) nj))) ∧ ∃ (gs ps : Nat) (X : Nat → Nat → Int32), x = cG w a th Z sn gs ps X ∧ sameX X0 X)) 0 0 96 [(0, .ref (a 0)), (1, .int so), (2, .int f), (3, .int t), (4, .int (z0 ||| iorf (fun k => if mCls (N0 (2 + 4 * cr j k)) (N0 (2 + 4 * de j k)) = so then (1 : Int32) <<< (nI j &&& 31) else 0) (np j))), (5, .int (nI j)), (6, .int (nI (np j)))] [] (cG w a th Z sn (ng j) (np j) X)) : ∀ (m : Nat) (k : Nat), (np j + 1 ≤ k + m) → (k ≤ np j) → V w mX8_makes (vc w 13 0 0 (fun r x => r = some (.int ((iorf (fun j => if mCnt N0 j f t then iorf (fun k => if mCls (N0 (2 + 4 * cr j k)) (N0 (2 + 4 * de j k)) = so then (1 : Int32) <<< (nI j &&& 31) else 0) (np j) else 0) nj))) ∧ ∃ (gs ps : Nat) (X : Nat → Nat → Int32), x = cG w a th Z sn gs ps X ∧ sameX X0 X)) 0 0 62 [(0, .ref (a 0)), (1, .int so), (2, .int f), (3, .int t), (4, .int (z0 ||| iorf (fun k => if mCls (N0 (2 + 4 * cr j k)) (N0 (2 + 4 * de j k)) = so then (1 : Int32) <<< (nI j &&& 31) else 0) k)), (5, .int (nI j)), (6, .int (nI k))] [] (cG w a th Z sn (ng j) (np j) X) := by
  intro m
  induction m with
  | zero =>
    intro k h1 h2
    exact absurd h1 (by omega)
  | succ m ih =>
    intro k h1 h2
    have hX11 : X 11 = N0 := hX.2.1.trans h11
    have hN : okN (X 11) na nj nl ac := by rw [hX11]; exact hN0
    have hP : okP (X 11) na nj nl np ng cr de mv gr := by rw [hX11]; exact hP0
    obtain ⟨hn0, hn1, hna, hnj, hnl, hac⟩ := id hN
    have hp6 := hP0.1
    have hpb := hP0.2.1
    obtain ⟨hpj, hgj⟩ := hp6 j hj
    refine V_iload dX8_makes_62 6 rfl ?_
    refine V_aload_n dX8_makes_64 0 rfl ?_
    refine V_get dX8_makes_65 fX8_196 0 rfl rfl ?_
    refine V_icmp_ge_n k (np j) 96 dX8_makes_68 (by decide) (by omega) (by omega) (fun zc1 => ?_) (fun zc1 => ?_)
    · obtain rfl : k = np j := by omega
      exact hnx
    · have hbk := hpb j k hj (by omega)
      refine V_aload_n dX8_makes_71 0 rfl ?_
      refine V_iload dX8_makes_72 6 rfl ?_
      refine V_selfR dX8_makes_74 lX8_221 (e_M_classOf w a th Z sn (ng j) (np j) X k (cr j k) (de j k) (by omega) (hpc k (by omega)).1 (hpc k (by omega)).2.1 (by omega) (by omega)) rfl rfl 0 rfl rfl rfl rfl ?_
      refine V_iload_n dX8_makes_77 1 rfl ?_
      refine V_icmp_ne 90 dX8_makes_78 (by decide) (fun zc2 => ?_) (fun zc2 => ?_)
      · refine V_iinc (nI (k + 1)) dX8_makes_90 6 rfl (nI_i1 k) rfl (L' := [(0, .ref (a 0)), (1, .int so), (2, .int f), (3, .int t), (4, .int (z0 ||| iorf (fun k => if mCls (N0 (2 + 4 * cr j k)) (N0 (2 + 4 * de j k)) = so then (1 : Int32) <<< (nI j &&& 31) else 0) k)), (5, .int (nI j)), (6, .int (nI (k + 1)))]) rfl ?_
        refine V_goto 62 dX8_makes_93 (by decide) ?_
        rw [show z0 ||| iorf (fun k => if mCls (N0 (2 + 4 * cr j k)) (N0 (2 + 4 * de j k)) = so then (1 : Int32) <<< (nI j &&& 31) else 0) k = z0 ||| iorf (fun k => if mCls (N0 (2 + 4 * cr j k)) (N0 (2 + 4 * de j k)) = so then (1 : Int32) <<< (nI j &&& 31) else 0) (k + 1) by rw [← iorf_s]; clear ih hN hP hnl hac hnx hP0 hN0 hpc; subst hX11; grind [Int32.add_zero, Int32.or_zero]]
        exact ih (k + 1) (by omega) (by omega)
      · refine V_iload dX8_makes_81 4 rfl ?_
        refine V_iconst 1 dX8_makes_83 (by decide) ?_
        refine V_iload dX8_makes_84 5 rfl ?_
        refine V_ishl dX8_makes_86 ?_
        refine V_ior dX8_makes_87 ?_
        refine V_istore dX8_makes_88 rfl (L' := [(0, .ref (a 0)), (1, .int so), (2, .int f), (3, .int t), (4, .int ((z0 ||| iorf (fun k => if mCls (N0 (2 + 4 * cr j k)) (N0 (2 + 4 * de j k)) = so then (1 : Int32) <<< (nI j &&& 31) else 0) k) ||| (1 <<< (nI j &&& 31)))), (5, .int (nI j)), (6, .int (nI k))]) rfl ?_
        refine V_iinc (nI (k + 1)) dX8_makes_90 6 rfl (nI_i1 k) rfl (L' := [(0, .ref (a 0)), (1, .int so), (2, .int f), (3, .int t), (4, .int ((z0 ||| iorf (fun k => if mCls (N0 (2 + 4 * cr j k)) (N0 (2 + 4 * de j k)) = so then (1 : Int32) <<< (nI j &&& 31) else 0) k) ||| (1 <<< (nI j &&& 31)))), (5, .int (nI j)), (6, .int (nI (k + 1)))]) rfl ?_
        refine V_goto 62 dX8_makes_93 (by decide) ?_
        rw [show (z0 ||| iorf (fun k => if mCls (N0 (2 + 4 * cr j k)) (N0 (2 + 4 * de j k)) = so then (1 : Int32) <<< (nI j &&& 31) else 0) k) ||| (1 <<< (nI j &&& 31)) = z0 ||| iorf (fun k => if mCls (N0 (2 + 4 * cr j k)) (N0 (2 + 4 * de j k)) = so then (1 : Int32) <<< (nI j &&& 31) else 0) (k + 1) by rw [← iorf_s]; clear ih hN hP hnl hac hnx hP0 hN0 hpc; subst hX11; grind [Int32.add_zero, Int32.or_zero]]
        exact ih (k + 1) (by omega) (by omega)

set_option maxRecDepth 100000 in
set_option maxHeartbeats 4000000 in
theorem lp_M_makes (w : vWd) (a : Nat → Nat) (th : Int32) (Z : ZT) (sn : Nat) (X0 : Nat → Nat → Int32) (N0 : Nat → Int32) (h11 : X0 11 = N0) (so : Int32) (f : Int32) (t : Int32) (na nj : Nat) (nl : Nat → Nat) (ac : Nat → Nat → Nat) (hN0 : okN N0 na nj nl ac) (np ng : Nat → Nat) (cr de : Nat → Nat → Nat) (mv gr : Nat → Nat → Int32) (hP0 : okP N0 na nj nl np ng cr de mv gr) : ∀ (m : Nat) (j gs ps : Nat) (X : Nat → Nat → Int32), (nj + 1 ≤ j + m) → (j ≤ nj) → (sameX X0 X) → V w mX8_makes (vc w 13 0 0 (fun r x => r = some (.int ((iorf (fun j => if mCnt N0 j f t then iorf (fun k => if mCls (N0 (2 + 4 * cr j k)) (N0 (2 + 4 * de j k)) = so then (1 : Int32) <<< (nI j &&& 31) else 0) (np j) else 0) nj))) ∧ ∃ (gs ps : Nat) (X : Nat → Nat → Int32), x = cG w a th Z sn gs ps X ∧ sameX X0 X)) 0 0 28 [(0, .ref (a 0)), (1, .int so), (2, .int f), (3, .int t), (4, .int (iorf (fun j => if mCnt N0 j f t then iorf (fun k => if mCls (N0 (2 + 4 * cr j k)) (N0 (2 + 4 * de j k)) = so then (1 : Int32) <<< (nI j &&& 31) else 0) (np j) else 0) j)), (5, .int (nI j))] [] (cG w a th Z sn gs ps X) := by
  intro m
  induction m with
  | zero =>
    intro j gs ps X h1 h2 hX
    exact absurd h1 (by omega)
  | succ m ih =>
    intro j gs ps X h1 h2 hX
    have hX11 : X 11 = N0 := hX.2.1.trans h11
    have hN : okN (X 11) na nj nl ac := by rw [hX11]; exact hN0
    have hP : okP (X 11) na nj nl np ng cr de mv gr := by rw [hX11]; exact hP0
    obtain ⟨hn0, hn1, hna, hnj, hnl, hac⟩ := id hN
    have hp6 := hP0.1
    have hpb := hP0.2.1
    refine V_iload dX8_makes_28 5 rfl ?_
    refine V_aload_n dX8_makes_30 0 rfl ?_
    refine V_get dX8_makes_31 fX8_76 0 rfl rfl ?_
    refine V_iconst 1 dX8_makes_34 (by decide) ?_
    refine V_iald dX8_makes_35 2 rfl rfl 1 rfl (by omega) ?_
    refine V_casti (y := nI nj) hn1 ?_
    refine V_icmp_ge_n j nj 102 dX8_makes_36 (by decide) (by omega) (by omega) (fun zc1 => ?_) (fun zc1 => ?_)
    · refine V_iload dX8_makes_102 4 rfl ?_
      refine V_iret dX8_makes_104 rfl (nb rfl) (nb rfl) ?_
      obtain rfl : j = nj := by omega
      exact ⟨rfl, gs, ps, X, rfl, hX⟩
    · refine V_aload_n dX8_makes_39 0 rfl ?_
      refine V_iload dX8_makes_40 5 rfl ?_
      refine V_iload_n dX8_makes_42 2 rfl ?_
      refine V_iload_n dX8_makes_43 3 rfl ?_
      refine V_selfR dX8_makes_44 lX8_176 (e_M_counts w a th Z sn gs ps X j f t (by omega)) rfl rfl 0 rfl rfl rfl rfl ?_
      refine V_ifne_b 53 dX8_makes_47 (by decide) (fun zc2 => ?_) (fun zc2 => ?_)
      · have hcc : mCnt N0 j f t = true := by rw [← hX11]; exact zc2
        refine V_aload_n dX8_makes_53 0 rfl ?_
        refine V_iload dX8_makes_54 5 rfl ?_
        refine V_selfQ dX8_makes_56 lX8_218 (e_M_lp w a th Z sn gs ps X j na nj nl ac hN (by omega) np ng cr de mv gr hP) rfl rfl 0 rfl rfl rfl rfl ?_
        rintro r9 x9 ⟨rfl, Y1, rfl, hs1, hpc1, hgr1⟩
        refine V_iconst 0 dX8_makes_59 (by decide) ?_
        refine V_istore dX8_makes_60 rfl (L' := [(0, .ref (a 0)), (1, .int so), (2, .int f), (3, .int t), (4, .int (iorf (fun j => if mCnt N0 j f t then iorf (fun k => if mCls (N0 (2 + 4 * cr j k)) (N0 (2 + 4 * de j k)) = so then (1 : Int32) <<< (nI j &&& 31) else 0) (np j) else 0) j)), (5, .int (nI j)), (6, .int 0)]) rfl ?_
        refine V_L ?_ (lpi_M_makes w a th Z sn X0 N0 h11 so f t na nj nl ac hN0 np ng cr de mv gr hP0 j (by omega) (iorf (fun j => if mCnt N0 j f t then iorf (fun k => if mCls (N0 (2 + 4 * cr j k)) (N0 (2 + 4 * de j k)) = so then (1 : Int32) <<< (nI j &&& 31) else 0) (np j) else 0) j) Y1 (hX.tr hs1) hpc1 ?_ (np j + 1) 0 (by omega) (by omega))
        · rw [← iorf_0]; rfl
        · refine V_iinc (nI (j + 1)) dX8_makes_96 5 rfl (nI_i1 j) rfl (L' := [(0, .ref (a 0)), (1, .int so), (2, .int f), (3, .int t), (4, .int (iorf (fun j => if mCnt N0 j f t then iorf (fun k => if mCls (N0 (2 + 4 * cr j k)) (N0 (2 + 4 * de j k)) = so then (1 : Int32) <<< (nI j &&& 31) else 0) (np j) else 0) j ||| iorf (fun k => if mCls (N0 (2 + 4 * cr j k)) (N0 (2 + 4 * de j k)) = so then (1 : Int32) <<< (nI j &&& 31) else 0) (np j))), (5, .int (nI (j + 1))), (6, .int (nI (np j)))]) rfl ?_
          refine V_goto 28 dX8_makes_99 (by decide) ?_
          refine V_dropL (L' := [(0, .ref (a 0)), (1, .int so), (2, .int f), (3, .int t), (4, .int (iorf (fun j => if mCnt N0 j f t then iorf (fun k => if mCls (N0 (2 + 4 * cr j k)) (N0 (2 + 4 * de j k)) = so then (1 : Int32) <<< (nI j &&& 31) else 0) (np j) else 0) j ||| iorf (fun k => if mCls (N0 (2 + 4 * cr j k)) (N0 (2 + 4 * de j k)) = so then (1 : Int32) <<< (nI j &&& 31) else 0) (np j))), (5, .int (nI (j + 1)))]) (L'' := [(6, .int (nI (np j)))]) rfl ?_
          rw [show iorf (fun j => if mCnt N0 j f t then iorf (fun k => if mCls (N0 (2 + 4 * cr j k)) (N0 (2 + 4 * de j k)) = so then (1 : Int32) <<< (nI j &&& 31) else 0) (np j) else 0) j ||| iorf (fun k => if mCls (N0 (2 + 4 * cr j k)) (N0 (2 + 4 * de j k)) = so then (1 : Int32) <<< (nI j &&& 31) else 0) (np j) = iorf (fun j => if mCnt N0 j f t then iorf (fun k => if mCls (N0 (2 + 4 * cr j k)) (N0 (2 + 4 * de j k)) = so then (1 : Int32) <<< (nI j &&& 31) else 0) (np j) else 0) (j + 1) by rw [iorf, if_pos hcc]]
          exact ih (j + 1) (ng j) (np j) Y1 (by omega) (by omega) (hX.tr hs1)
      · have hcc : ¬ mCnt N0 j f t = true := by rw [← hX11, zc2]; decide
        refine V_goto 96 dX8_makes_50 (by decide) ?_
        refine V_iinc (nI (j + 1)) dX8_makes_96 5 rfl (nI_i1 j) rfl (L' := [(0, .ref (a 0)), (1, .int so), (2, .int f), (3, .int t), (4, .int (iorf (fun j => if mCnt N0 j f t then iorf (fun k => if mCls (N0 (2 + 4 * cr j k)) (N0 (2 + 4 * de j k)) = so then (1 : Int32) <<< (nI j &&& 31) else 0) (np j) else 0) j)), (5, .int (nI (j + 1)))]) rfl ?_
        refine V_goto 28 dX8_makes_99 (by decide) ?_
        rw [show iorf (fun j => if mCnt N0 j f t then iorf (fun k => if mCls (N0 (2 + 4 * cr j k)) (N0 (2 + 4 * de j k)) = so then (1 : Int32) <<< (nI j &&& 31) else 0) (np j) else 0) j = iorf (fun j => if mCnt N0 j f t then iorf (fun k => if mCls (N0 (2 + 4 * cr j k)) (N0 (2 + 4 * de j k)) = so then (1 : Int32) <<< (nI j &&& 31) else 0) (np j) else 0) (j + 1) by rw [iorf, if_neg hcc]; rw [Int32.or_zero]]
        exact ih (j + 1) gs ps X (by omega) (by omega) hX

set_option maxRecDepth 100000 in
set_option maxHeartbeats 4000000 in
theorem lpi_M_deals (w : vWd) (a : Nat → Nat) (th : Int32) (Z : ZT) (sn : Nat) (X0 : Nat → Nat → Int32) (N0 : Nat → Int32) (h11 : X0 11 = N0) (ki : Int32) (ot : Int32) (f : Int32) (t : Int32) (na nj : Nat) (nl : Nat → Nat) (ac : Nat → Nat → Nat) (hN0 : okN N0 na nj nl ac) (np ng : Nat → Nat) (cr de : Nat → Nat → Nat) (mv gr : Nat → Nat → Int32) (hP0 : okP N0 na nj nl np ng cr de mv gr) (j : Nat) (hj : j < nj) (z0 : Int32) (X : Nat → Nat → Int32) (hX : sameX X0 X) (hpc : ∀ k, k < np j → X 20 k = nI (cr j k) ∧ X 21 k = nI (de j k) ∧ X 22 k = mv j k) (hnx : V w mX8_deals (vc w 13 0 0 (fun r x => r = some (.int ((isum (fun j => if mCnt N0 j f t then isum (fun k => if ((N0 (2 + 4 * cr j k)) = ki ∧ (N0 (2 + 4 * de j k)) = ot) ∨ ((N0 (2 + 4 * cr j k)) = ot ∧ (N0 (2 + 4 * de j k)) = ki) then mv j k else 0) (np j) else 0) nj))) ∧ ∃ (gs ps : Nat) (X : Nat → Nat → Int32), x = cG w a th Z sn gs ps X ∧ sameX X0 X)) 0 0 152 [(0, .ref (a 0)), (1, .int ki), (2, .int ot), (3, .int f), (4, .int t), (5, .int (z0 + isum (fun k => if ((N0 (2 + 4 * cr j k)) = ki ∧ (N0 (2 + 4 * de j k)) = ot) ∨ ((N0 (2 + 4 * cr j k)) = ot ∧ (N0 (2 + 4 * de j k)) = ki) then mv j k else 0) (np j))), (6, .int (nI j)), (7, .int (nI (np j)))] [] (cG w a th Z sn (ng j) (np j) X)) : ∀ (m : Nat) (k : Nat), (np j + 1 ≤ k + m) → (k ≤ np j) → V w mX8_deals (vc w 13 0 0 (fun r x => r = some (.int ((isum (fun j => if mCnt N0 j f t then isum (fun k => if ((N0 (2 + 4 * cr j k)) = ki ∧ (N0 (2 + 4 * de j k)) = ot) ∨ ((N0 (2 + 4 * cr j k)) = ot ∧ (N0 (2 + 4 * de j k)) = ki) then mv j k else 0) (np j) else 0) nj))) ∧ ∃ (gs ps : Nat) (X : Nat → Nat → Int32), x = cG w a th Z sn gs ps X ∧ sameX X0 X)) 0 0 75 [(0, .ref (a 0)), (1, .int ki), (2, .int ot), (3, .int f), (4, .int t), (5, .int (z0 + isum (fun k => if ((N0 (2 + 4 * cr j k)) = ki ∧ (N0 (2 + 4 * de j k)) = ot) ∨ ((N0 (2 + 4 * cr j k)) = ot ∧ (N0 (2 + 4 * de j k)) = ki) then mv j k else 0) k)), (6, .int (nI j)), (7, .int (nI k))] [] (cG w a th Z sn (ng j) (np j) X) := by
  intro m
  induction m with
  | zero =>
    intro k h1 h2
    exact absurd h1 (by omega)
  | succ m ih =>
    intro k h1 h2
    have hX11 : X 11 = N0 := hX.2.1.trans h11
    have hN : okN (X 11) na nj nl ac := by rw [hX11]; exact hN0
    have hP : okP (X 11) na nj nl np ng cr de mv gr := by rw [hX11]; exact hP0
    obtain ⟨hn0, hn1, hna, hnj, hnl, hac⟩ := id hN
    have hp6 := hP0.1
    have hpb := hP0.2.1
    obtain ⟨hpj, hgj⟩ := hp6 j hj
    refine V_iload dX8_deals_75 7 rfl ?_
    refine V_aload_n dX8_deals_77 0 rfl ?_
    refine V_get dX8_deals_78 fX8_196 0 rfl rfl ?_
    refine V_icmp_ge_n k (np j) 152 dX8_deals_81 (by decide) (by omega) (by omega) (fun zc1 => ?_) (fun zc1 => ?_)
    · obtain rfl : k = np j := by omega
      exact hnx
    · have hbk := hpb j k hj (by omega)
      refine V_aload_n dX8_deals_84 0 rfl ?_
      refine V_aload_n dX8_deals_85 0 rfl ?_
      refine V_get dX8_deals_86 fX8_94 0 rfl rfl ?_
      refine V_iload dX8_deals_89 7 rfl ?_
      refine V_iald dX8_deals_91 8 rfl rfl k rfl (by omega) ?_
      refine V_casti (y := nI (cr j k)) (hpc k (by omega)).1 ?_
      refine V_selfR dX8_deals_92 lX8_203 (e_M_kindOf w a th Z sn (ng j) (np j) X (cr j k) (by omega)) rfl rfl 0 rfl rfl rfl rfl ?_
      refine V_istore dX8_deals_95 rfl (L' := [(0, .ref (a 0)), (1, .int ki), (2, .int ot), (3, .int f), (4, .int t), (5, .int (z0 + isum (fun k => if ((N0 (2 + 4 * cr j k)) = ki ∧ (N0 (2 + 4 * de j k)) = ot) ∨ ((N0 (2 + 4 * cr j k)) = ot ∧ (N0 (2 + 4 * de j k)) = ki) then mv j k else 0) k)), (6, .int (nI j)), (7, .int (nI k)), (8, .int (X 11 (2 + 4 * (cr j k))))]) rfl ?_
      refine V_aload_n dX8_deals_97 0 rfl ?_
      refine V_aload_n dX8_deals_98 0 rfl ?_
      refine V_get dX8_deals_99 fX8_97 0 rfl rfl ?_
      refine V_iload dX8_deals_102 7 rfl ?_
      refine V_iald dX8_deals_104 9 rfl rfl k rfl (by omega) ?_
      refine V_casti (y := nI (de j k)) (hpc k (by omega)).2.1 ?_
      refine V_selfR dX8_deals_105 lX8_203 (e_M_kindOf w a th Z sn (ng j) (np j) X (de j k) (by omega)) rfl rfl 0 rfl rfl rfl rfl ?_
      refine V_istore dX8_deals_108 rfl (L' := [(0, .ref (a 0)), (1, .int ki), (2, .int ot), (3, .int f), (4, .int t), (5, .int (z0 + isum (fun k => if ((N0 (2 + 4 * cr j k)) = ki ∧ (N0 (2 + 4 * de j k)) = ot) ∨ ((N0 (2 + 4 * cr j k)) = ot ∧ (N0 (2 + 4 * de j k)) = ki) then mv j k else 0) k)), (6, .int (nI j)), (7, .int (nI k)), (8, .int (X 11 (2 + 4 * (cr j k)))), (9, .int (X 11 (2 + 4 * (de j k))))]) rfl ?_
      refine V_iload dX8_deals_110 8 rfl ?_
      refine V_iload_n dX8_deals_112 1 rfl ?_
      refine V_icmp_ne 122 dX8_deals_113 (by decide) (fun zc2 => ?_) (fun zc2 => ?_)
      · refine V_iload dX8_deals_122 8 rfl ?_
        refine V_iload_n dX8_deals_124 2 rfl ?_
        refine V_icmp_ne 146 dX8_deals_125 (by decide) (fun zc3 => ?_) (fun zc3 => ?_)
        · refine V_iinc (nI (k + 1)) dX8_deals_146 7 rfl (nI_i1 k) rfl (L' := [(0, .ref (a 0)), (1, .int ki), (2, .int ot), (3, .int f), (4, .int t), (5, .int (z0 + isum (fun k => if ((N0 (2 + 4 * cr j k)) = ki ∧ (N0 (2 + 4 * de j k)) = ot) ∨ ((N0 (2 + 4 * cr j k)) = ot ∧ (N0 (2 + 4 * de j k)) = ki) then mv j k else 0) k)), (6, .int (nI j)), (7, .int (nI (k + 1))), (8, .int (X 11 (2 + 4 * (cr j k)))), (9, .int (X 11 (2 + 4 * (de j k))))]) rfl ?_
          refine V_goto 75 dX8_deals_149 (by decide) ?_
          refine V_dropL (L' := [(0, .ref (a 0)), (1, .int ki), (2, .int ot), (3, .int f), (4, .int t), (5, .int (z0 + isum (fun k => if ((N0 (2 + 4 * cr j k)) = ki ∧ (N0 (2 + 4 * de j k)) = ot) ∨ ((N0 (2 + 4 * cr j k)) = ot ∧ (N0 (2 + 4 * de j k)) = ki) then mv j k else 0) k)), (6, .int (nI j)), (7, .int (nI (k + 1)))]) (L'' := [(8, .int (X 11 (2 + 4 * (cr j k)))), (9, .int (X 11 (2 + 4 * (de j k))))]) rfl ?_
          rw [show z0 + isum (fun k => if ((N0 (2 + 4 * cr j k)) = ki ∧ (N0 (2 + 4 * de j k)) = ot) ∨ ((N0 (2 + 4 * cr j k)) = ot ∧ (N0 (2 + 4 * de j k)) = ki) then mv j k else 0) k = z0 + isum (fun k => if ((N0 (2 + 4 * cr j k)) = ki ∧ (N0 (2 + 4 * de j k)) = ot) ∨ ((N0 (2 + 4 * cr j k)) = ot ∧ (N0 (2 + 4 * de j k)) = ki) then mv j k else 0) (k + 1) by rw [← isum_s]; clear ih hN hP hnl hac hnx hP0 hN0 hpc; subst hX11; grind [Int32.add_zero, Int32.or_zero]]
          exact ih (k + 1) (by omega) (by omega)
        · refine V_iload dX8_deals_128 9 rfl ?_
          refine V_iload_n dX8_deals_130 1 rfl ?_
          refine V_icmp_ne 146 dX8_deals_131 (by decide) (fun zc4 => ?_) (fun zc4 => ?_)
          · refine V_iinc (nI (k + 1)) dX8_deals_146 7 rfl (nI_i1 k) rfl (L' := [(0, .ref (a 0)), (1, .int ki), (2, .int ot), (3, .int f), (4, .int t), (5, .int (z0 + isum (fun k => if ((N0 (2 + 4 * cr j k)) = ki ∧ (N0 (2 + 4 * de j k)) = ot) ∨ ((N0 (2 + 4 * cr j k)) = ot ∧ (N0 (2 + 4 * de j k)) = ki) then mv j k else 0) k)), (6, .int (nI j)), (7, .int (nI (k + 1))), (8, .int (X 11 (2 + 4 * (cr j k)))), (9, .int (X 11 (2 + 4 * (de j k))))]) rfl ?_
            refine V_goto 75 dX8_deals_149 (by decide) ?_
            refine V_dropL (L' := [(0, .ref (a 0)), (1, .int ki), (2, .int ot), (3, .int f), (4, .int t), (5, .int (z0 + isum (fun k => if ((N0 (2 + 4 * cr j k)) = ki ∧ (N0 (2 + 4 * de j k)) = ot) ∨ ((N0 (2 + 4 * cr j k)) = ot ∧ (N0 (2 + 4 * de j k)) = ki) then mv j k else 0) k)), (6, .int (nI j)), (7, .int (nI (k + 1)))]) (L'' := [(8, .int (X 11 (2 + 4 * (cr j k)))), (9, .int (X 11 (2 + 4 * (de j k))))]) rfl ?_
            rw [show z0 + isum (fun k => if ((N0 (2 + 4 * cr j k)) = ki ∧ (N0 (2 + 4 * de j k)) = ot) ∨ ((N0 (2 + 4 * cr j k)) = ot ∧ (N0 (2 + 4 * de j k)) = ki) then mv j k else 0) k = z0 + isum (fun k => if ((N0 (2 + 4 * cr j k)) = ki ∧ (N0 (2 + 4 * de j k)) = ot) ∨ ((N0 (2 + 4 * cr j k)) = ot ∧ (N0 (2 + 4 * de j k)) = ki) then mv j k else 0) (k + 1) by rw [← isum_s]; clear ih hN hP hnl hac hnx hP0 hN0 hpc; subst hX11; grind [Int32.add_zero, Int32.or_zero]]
            exact ih (k + 1) (by omega) (by omega)
          · refine V_iload dX8_deals_134 5 rfl ?_
            refine V_aload_n dX8_deals_136 0 rfl ?_
            refine V_get dX8_deals_137 fX8_100 0 rfl rfl ?_
            refine V_iload dX8_deals_140 7 rfl ?_
            refine V_iald dX8_deals_142 10 rfl rfl k rfl (by omega) ?_
            refine V_casti (y := mv j k) (hpc k (by omega)).2.2 ?_
            refine V_iadd dX8_deals_143 ?_
            refine V_istore dX8_deals_144 rfl (L' := [(0, .ref (a 0)), (1, .int ki), (2, .int ot), (3, .int f), (4, .int t), (5, .int ((z0 + isum (fun k => if ((N0 (2 + 4 * cr j k)) = ki ∧ (N0 (2 + 4 * de j k)) = ot) ∨ ((N0 (2 + 4 * cr j k)) = ot ∧ (N0 (2 + 4 * de j k)) = ki) then mv j k else 0) k) + (mv j k))), (6, .int (nI j)), (7, .int (nI k)), (8, .int (X 11 (2 + 4 * (cr j k)))), (9, .int (X 11 (2 + 4 * (de j k))))]) rfl ?_
            refine V_iinc (nI (k + 1)) dX8_deals_146 7 rfl (nI_i1 k) rfl (L' := [(0, .ref (a 0)), (1, .int ki), (2, .int ot), (3, .int f), (4, .int t), (5, .int ((z0 + isum (fun k => if ((N0 (2 + 4 * cr j k)) = ki ∧ (N0 (2 + 4 * de j k)) = ot) ∨ ((N0 (2 + 4 * cr j k)) = ot ∧ (N0 (2 + 4 * de j k)) = ki) then mv j k else 0) k) + (mv j k))), (6, .int (nI j)), (7, .int (nI (k + 1))), (8, .int (X 11 (2 + 4 * (cr j k)))), (9, .int (X 11 (2 + 4 * (de j k))))]) rfl ?_
            refine V_goto 75 dX8_deals_149 (by decide) ?_
            refine V_dropL (L' := [(0, .ref (a 0)), (1, .int ki), (2, .int ot), (3, .int f), (4, .int t), (5, .int ((z0 + isum (fun k => if ((N0 (2 + 4 * cr j k)) = ki ∧ (N0 (2 + 4 * de j k)) = ot) ∨ ((N0 (2 + 4 * cr j k)) = ot ∧ (N0 (2 + 4 * de j k)) = ki) then mv j k else 0) k) + (mv j k))), (6, .int (nI j)), (7, .int (nI (k + 1)))]) (L'' := [(8, .int (X 11 (2 + 4 * (cr j k)))), (9, .int (X 11 (2 + 4 * (de j k))))]) rfl ?_
            rw [show (z0 + isum (fun k => if ((N0 (2 + 4 * cr j k)) = ki ∧ (N0 (2 + 4 * de j k)) = ot) ∨ ((N0 (2 + 4 * cr j k)) = ot ∧ (N0 (2 + 4 * de j k)) = ki) then mv j k else 0) k) + (mv j k) = z0 + isum (fun k => if ((N0 (2 + 4 * cr j k)) = ki ∧ (N0 (2 + 4 * de j k)) = ot) ∨ ((N0 (2 + 4 * cr j k)) = ot ∧ (N0 (2 + 4 * de j k)) = ki) then mv j k else 0) (k + 1) by rw [← isum_s]; clear ih hN hP hnl hac hnx hP0 hN0 hpc; subst hX11; grind [Int32.add_zero, Int32.or_zero]]
            exact ih (k + 1) (by omega) (by omega)
      · refine V_iload dX8_deals_116 9 rfl ?_
        refine V_iload_n dX8_deals_118 2 rfl ?_
        refine V_icmp_eq 134 dX8_deals_119 (by decide) (fun zc5 => ?_) (fun zc5 => ?_)
        · refine V_iload dX8_deals_134 5 rfl ?_
          refine V_aload_n dX8_deals_136 0 rfl ?_
          refine V_get dX8_deals_137 fX8_100 0 rfl rfl ?_
          refine V_iload dX8_deals_140 7 rfl ?_
          refine V_iald dX8_deals_142 10 rfl rfl k rfl (by omega) ?_
          refine V_casti (y := mv j k) (hpc k (by omega)).2.2 ?_
          refine V_iadd dX8_deals_143 ?_
          refine V_istore dX8_deals_144 rfl (L' := [(0, .ref (a 0)), (1, .int ki), (2, .int ot), (3, .int f), (4, .int t), (5, .int ((z0 + isum (fun k => if ((N0 (2 + 4 * cr j k)) = ki ∧ (N0 (2 + 4 * de j k)) = ot) ∨ ((N0 (2 + 4 * cr j k)) = ot ∧ (N0 (2 + 4 * de j k)) = ki) then mv j k else 0) k) + (mv j k))), (6, .int (nI j)), (7, .int (nI k)), (8, .int (X 11 (2 + 4 * (cr j k)))), (9, .int (X 11 (2 + 4 * (de j k))))]) rfl ?_
          refine V_iinc (nI (k + 1)) dX8_deals_146 7 rfl (nI_i1 k) rfl (L' := [(0, .ref (a 0)), (1, .int ki), (2, .int ot), (3, .int f), (4, .int t), (5, .int ((z0 + isum (fun k => if ((N0 (2 + 4 * cr j k)) = ki ∧ (N0 (2 + 4 * de j k)) = ot) ∨ ((N0 (2 + 4 * cr j k)) = ot ∧ (N0 (2 + 4 * de j k)) = ki) then mv j k else 0) k) + (mv j k))), (6, .int (nI j)), (7, .int (nI (k + 1))), (8, .int (X 11 (2 + 4 * (cr j k)))), (9, .int (X 11 (2 + 4 * (de j k))))]) rfl ?_
          refine V_goto 75 dX8_deals_149 (by decide) ?_
          refine V_dropL (L' := [(0, .ref (a 0)), (1, .int ki), (2, .int ot), (3, .int f), (4, .int t), (5, .int ((z0 + isum (fun k => if ((N0 (2 + 4 * cr j k)) = ki ∧ (N0 (2 + 4 * de j k)) = ot) ∨ ((N0 (2 + 4 * cr j k)) = ot ∧ (N0 (2 + 4 * de j k)) = ki) then mv j k else 0) k) + (mv j k))), (6, .int (nI j)), (7, .int (nI (k + 1)))]) (L'' := [(8, .int (X 11 (2 + 4 * (cr j k)))), (9, .int (X 11 (2 + 4 * (de j k))))]) rfl ?_
          rw [show (z0 + isum (fun k => if ((N0 (2 + 4 * cr j k)) = ki ∧ (N0 (2 + 4 * de j k)) = ot) ∨ ((N0 (2 + 4 * cr j k)) = ot ∧ (N0 (2 + 4 * de j k)) = ki) then mv j k else 0) k) + (mv j k) = z0 + isum (fun k => if ((N0 (2 + 4 * cr j k)) = ki ∧ (N0 (2 + 4 * de j k)) = ot) ∨ ((N0 (2 + 4 * cr j k)) = ot ∧ (N0 (2 + 4 * de j k)) = ki) then mv j k else 0) (k + 1) by rw [← isum_s]; clear ih hN hP hnl hac hnx hP0 hN0 hpc; subst hX11; grind [Int32.add_zero, Int32.or_zero]]
          exact ih (k + 1) (by omega) (by omega)
        · refine V_iload dX8_deals_122 8 rfl ?_
          refine V_iload_n dX8_deals_124 2 rfl ?_
          refine V_icmp_ne 146 dX8_deals_125 (by decide) (fun zc6 => ?_) (fun zc6 => ?_)
          · refine V_iinc (nI (k + 1)) dX8_deals_146 7 rfl (nI_i1 k) rfl (L' := [(0, .ref (a 0)), (1, .int ki), (2, .int ot), (3, .int f), (4, .int t), (5, .int (z0 + isum (fun k => if ((N0 (2 + 4 * cr j k)) = ki ∧ (N0 (2 + 4 * de j k)) = ot) ∨ ((N0 (2 + 4 * cr j k)) = ot ∧ (N0 (2 + 4 * de j k)) = ki) then mv j k else 0) k)), (6, .int (nI j)), (7, .int (nI (k + 1))), (8, .int (X 11 (2 + 4 * (cr j k)))), (9, .int (X 11 (2 + 4 * (de j k))))]) rfl ?_
            refine V_goto 75 dX8_deals_149 (by decide) ?_
            refine V_dropL (L' := [(0, .ref (a 0)), (1, .int ki), (2, .int ot), (3, .int f), (4, .int t), (5, .int (z0 + isum (fun k => if ((N0 (2 + 4 * cr j k)) = ki ∧ (N0 (2 + 4 * de j k)) = ot) ∨ ((N0 (2 + 4 * cr j k)) = ot ∧ (N0 (2 + 4 * de j k)) = ki) then mv j k else 0) k)), (6, .int (nI j)), (7, .int (nI (k + 1)))]) (L'' := [(8, .int (X 11 (2 + 4 * (cr j k)))), (9, .int (X 11 (2 + 4 * (de j k))))]) rfl ?_
            rw [show z0 + isum (fun k => if ((N0 (2 + 4 * cr j k)) = ki ∧ (N0 (2 + 4 * de j k)) = ot) ∨ ((N0 (2 + 4 * cr j k)) = ot ∧ (N0 (2 + 4 * de j k)) = ki) then mv j k else 0) k = z0 + isum (fun k => if ((N0 (2 + 4 * cr j k)) = ki ∧ (N0 (2 + 4 * de j k)) = ot) ∨ ((N0 (2 + 4 * cr j k)) = ot ∧ (N0 (2 + 4 * de j k)) = ki) then mv j k else 0) (k + 1) by rw [← isum_s]; clear ih hN hP hnl hac hnx hP0 hN0 hpc; subst hX11; grind [Int32.add_zero, Int32.or_zero]]
            exact ih (k + 1) (by omega) (by omega)
          · refine V_iload dX8_deals_128 9 rfl ?_
            refine V_iload_n dX8_deals_130 1 rfl ?_
            refine V_icmp_ne 146 dX8_deals_131 (by decide) (fun zc7 => ?_) (fun zc7 => ?_)
            · refine V_iinc (nI (k + 1)) dX8_deals_146 7 rfl (nI_i1 k) rfl (L' := [(0, .ref (a 0)), (1, .int ki), (2, .int ot), (3, .int f), (4, .int t), (5, .int (z0 + isum (fun k => if ((N0 (2 + 4 * cr j k)) = ki ∧ (N0 (2 + 4 * de j k)) = ot) ∨ ((N0 (2 + 4 * cr j k)) = ot ∧ (N0 (2 + 4 * de j k)) = ki) then mv j k else 0) k)), (6, .int (nI j)), (7, .int (nI (k + 1))), (8, .int (X 11 (2 + 4 * (cr j k)))), (9, .int (X 11 (2 + 4 * (de j k))))]) rfl ?_
              refine V_goto 75 dX8_deals_149 (by decide) ?_
              refine V_dropL (L' := [(0, .ref (a 0)), (1, .int ki), (2, .int ot), (3, .int f), (4, .int t), (5, .int (z0 + isum (fun k => if ((N0 (2 + 4 * cr j k)) = ki ∧ (N0 (2 + 4 * de j k)) = ot) ∨ ((N0 (2 + 4 * cr j k)) = ot ∧ (N0 (2 + 4 * de j k)) = ki) then mv j k else 0) k)), (6, .int (nI j)), (7, .int (nI (k + 1)))]) (L'' := [(8, .int (X 11 (2 + 4 * (cr j k)))), (9, .int (X 11 (2 + 4 * (de j k))))]) rfl ?_
              rw [show z0 + isum (fun k => if ((N0 (2 + 4 * cr j k)) = ki ∧ (N0 (2 + 4 * de j k)) = ot) ∨ ((N0 (2 + 4 * cr j k)) = ot ∧ (N0 (2 + 4 * de j k)) = ki) then mv j k else 0) k = z0 + isum (fun k => if ((N0 (2 + 4 * cr j k)) = ki ∧ (N0 (2 + 4 * de j k)) = ot) ∨ ((N0 (2 + 4 * cr j k)) = ot ∧ (N0 (2 + 4 * de j k)) = ki) then mv j k else 0) (k + 1) by rw [← isum_s]; clear ih hN hP hnl hac hnx hP0 hN0 hpc; subst hX11; grind [Int32.add_zero, Int32.or_zero]]
              exact ih (k + 1) (by omega) (by omega)
            · refine V_iload dX8_deals_134 5 rfl ?_
              refine V_aload_n dX8_deals_136 0 rfl ?_
              refine V_get dX8_deals_137 fX8_100 0 rfl rfl ?_
              refine V_iload dX8_deals_140 7 rfl ?_
              refine V_iald dX8_deals_142 10 rfl rfl k rfl (by omega) ?_
              refine V_casti (y := mv j k) (hpc k (by omega)).2.2 ?_
              refine V_iadd dX8_deals_143 ?_
              refine V_istore dX8_deals_144 rfl (L' := [(0, .ref (a 0)), (1, .int ki), (2, .int ot), (3, .int f), (4, .int t), (5, .int ((z0 + isum (fun k => if ((N0 (2 + 4 * cr j k)) = ki ∧ (N0 (2 + 4 * de j k)) = ot) ∨ ((N0 (2 + 4 * cr j k)) = ot ∧ (N0 (2 + 4 * de j k)) = ki) then mv j k else 0) k) + (mv j k))), (6, .int (nI j)), (7, .int (nI k)), (8, .int (X 11 (2 + 4 * (cr j k)))), (9, .int (X 11 (2 + 4 * (de j k))))]) rfl ?_
              refine V_iinc (nI (k + 1)) dX8_deals_146 7 rfl (nI_i1 k) rfl (L' := [(0, .ref (a 0)), (1, .int ki), (2, .int ot), (3, .int f), (4, .int t), (5, .int ((z0 + isum (fun k => if ((N0 (2 + 4 * cr j k)) = ki ∧ (N0 (2 + 4 * de j k)) = ot) ∨ ((N0 (2 + 4 * cr j k)) = ot ∧ (N0 (2 + 4 * de j k)) = ki) then mv j k else 0) k) + (mv j k))), (6, .int (nI j)), (7, .int (nI (k + 1))), (8, .int (X 11 (2 + 4 * (cr j k)))), (9, .int (X 11 (2 + 4 * (de j k))))]) rfl ?_
              refine V_goto 75 dX8_deals_149 (by decide) ?_
              refine V_dropL (L' := [(0, .ref (a 0)), (1, .int ki), (2, .int ot), (3, .int f), (4, .int t), (5, .int ((z0 + isum (fun k => if ((N0 (2 + 4 * cr j k)) = ki ∧ (N0 (2 + 4 * de j k)) = ot) ∨ ((N0 (2 + 4 * cr j k)) = ot ∧ (N0 (2 + 4 * de j k)) = ki) then mv j k else 0) k) + (mv j k))), (6, .int (nI j)), (7, .int (nI (k + 1)))]) (L'' := [(8, .int (X 11 (2 + 4 * (cr j k)))), (9, .int (X 11 (2 + 4 * (de j k))))]) rfl ?_
              rw [show (z0 + isum (fun k => if ((N0 (2 + 4 * cr j k)) = ki ∧ (N0 (2 + 4 * de j k)) = ot) ∨ ((N0 (2 + 4 * cr j k)) = ot ∧ (N0 (2 + 4 * de j k)) = ki) then mv j k else 0) k) + (mv j k) = z0 + isum (fun k => if ((N0 (2 + 4 * cr j k)) = ki ∧ (N0 (2 + 4 * de j k)) = ot) ∨ ((N0 (2 + 4 * cr j k)) = ot ∧ (N0 (2 + 4 * de j k)) = ki) then mv j k else 0) (k + 1) by rw [← isum_s]; clear ih hN hP hnl hac hnx hP0 hN0 hpc; subst hX11; grind [Int32.add_zero, Int32.or_zero]]
              exact ih (k + 1) (by omega) (by omega)

set_option maxRecDepth 100000 in
set_option maxHeartbeats 4000000 in
theorem lp_M_deals (w : vWd) (a : Nat → Nat) (th : Int32) (Z : ZT) (sn : Nat) (X0 : Nat → Nat → Int32) (N0 : Nat → Int32) (h11 : X0 11 = N0) (ki : Int32) (ot : Int32) (f : Int32) (t : Int32) (na nj : Nat) (nl : Nat → Nat) (ac : Nat → Nat → Nat) (hN0 : okN N0 na nj nl ac) (np ng : Nat → Nat) (cr de : Nat → Nat → Nat) (mv gr : Nat → Nat → Int32) (hP0 : okP N0 na nj nl np ng cr de mv gr) : ∀ (m : Nat) (j gs ps : Nat) (X : Nat → Nat → Int32), (nj + 1 ≤ j + m) → (j ≤ nj) → (sameX X0 X) → V w mX8_deals (vc w 13 0 0 (fun r x => r = some (.int ((isum (fun j => if mCnt N0 j f t then isum (fun k => if ((N0 (2 + 4 * cr j k)) = ki ∧ (N0 (2 + 4 * de j k)) = ot) ∨ ((N0 (2 + 4 * cr j k)) = ot ∧ (N0 (2 + 4 * de j k)) = ki) then mv j k else 0) (np j) else 0) nj))) ∧ ∃ (gs ps : Nat) (X : Nat → Nat → Int32), x = cG w a th Z sn gs ps X ∧ sameX X0 X)) 0 0 40 [(0, .ref (a 0)), (1, .int ki), (2, .int ot), (3, .int f), (4, .int t), (5, .int (isum (fun j => if mCnt N0 j f t then isum (fun k => if ((N0 (2 + 4 * cr j k)) = ki ∧ (N0 (2 + 4 * de j k)) = ot) ∨ ((N0 (2 + 4 * cr j k)) = ot ∧ (N0 (2 + 4 * de j k)) = ki) then mv j k else 0) (np j) else 0) j)), (6, .int (nI j))] [] (cG w a th Z sn gs ps X) := by
  intro m
  induction m with
  | zero =>
    intro j gs ps X h1 h2 hX
    exact absurd h1 (by omega)
  | succ m ih =>
    intro j gs ps X h1 h2 hX
    have hX11 : X 11 = N0 := hX.2.1.trans h11
    have hN : okN (X 11) na nj nl ac := by rw [hX11]; exact hN0
    have hP : okP (X 11) na nj nl np ng cr de mv gr := by rw [hX11]; exact hP0
    obtain ⟨hn0, hn1, hna, hnj, hnl, hac⟩ := id hN
    have hp6 := hP0.1
    have hpb := hP0.2.1
    refine V_iload dX8_deals_40 6 rfl ?_
    refine V_aload_n dX8_deals_42 0 rfl ?_
    refine V_get dX8_deals_43 fX8_76 0 rfl rfl ?_
    refine V_iconst 1 dX8_deals_46 (by decide) ?_
    refine V_iald dX8_deals_47 2 rfl rfl 1 rfl (by omega) ?_
    refine V_casti (y := nI nj) hn1 ?_
    refine V_icmp_ge_n j nj 158 dX8_deals_48 (by decide) (by omega) (by omega) (fun zc1 => ?_) (fun zc1 => ?_)
    · refine V_iload dX8_deals_158 5 rfl ?_
      refine V_iret dX8_deals_160 rfl (nb rfl) (nb rfl) ?_
      obtain rfl : j = nj := by omega
      exact ⟨rfl, gs, ps, X, rfl, hX⟩
    · refine V_aload_n dX8_deals_51 0 rfl ?_
      refine V_iload dX8_deals_52 6 rfl ?_
      refine V_iload_n dX8_deals_54 3 rfl ?_
      refine V_iload dX8_deals_55 4 rfl ?_
      refine V_selfR dX8_deals_57 lX8_176 (e_M_counts w a th Z sn gs ps X j f t (by omega)) rfl rfl 0 rfl rfl rfl rfl ?_
      refine V_ifne_b 66 dX8_deals_60 (by decide) (fun zc2 => ?_) (fun zc2 => ?_)
      · have hcc : mCnt N0 j f t = true := by rw [← hX11]; exact zc2
        refine V_aload_n dX8_deals_66 0 rfl ?_
        refine V_iload dX8_deals_67 6 rfl ?_
        refine V_selfQ dX8_deals_69 lX8_218 (e_M_lp w a th Z sn gs ps X j na nj nl ac hN (by omega) np ng cr de mv gr hP) rfl rfl 0 rfl rfl rfl rfl ?_
        rintro r9 x9 ⟨rfl, Y1, rfl, hs1, hpc1, hgr1⟩
        refine V_iconst 0 dX8_deals_72 (by decide) ?_
        refine V_istore dX8_deals_73 rfl (L' := [(0, .ref (a 0)), (1, .int ki), (2, .int ot), (3, .int f), (4, .int t), (5, .int (isum (fun j => if mCnt N0 j f t then isum (fun k => if ((N0 (2 + 4 * cr j k)) = ki ∧ (N0 (2 + 4 * de j k)) = ot) ∨ ((N0 (2 + 4 * cr j k)) = ot ∧ (N0 (2 + 4 * de j k)) = ki) then mv j k else 0) (np j) else 0) j)), (6, .int (nI j)), (7, .int 0)]) rfl ?_
        refine V_L ?_ (lpi_M_deals w a th Z sn X0 N0 h11 ki ot f t na nj nl ac hN0 np ng cr de mv gr hP0 j (by omega) (isum (fun j => if mCnt N0 j f t then isum (fun k => if ((N0 (2 + 4 * cr j k)) = ki ∧ (N0 (2 + 4 * de j k)) = ot) ∨ ((N0 (2 + 4 * cr j k)) = ot ∧ (N0 (2 + 4 * de j k)) = ki) then mv j k else 0) (np j) else 0) j) Y1 (hX.tr hs1) hpc1 ?_ (np j + 1) 0 (by omega) (by omega))
        · rw [← isum_0]; rfl
        · refine V_iinc (nI (j + 1)) dX8_deals_152 6 rfl (nI_i1 j) rfl (L' := [(0, .ref (a 0)), (1, .int ki), (2, .int ot), (3, .int f), (4, .int t), (5, .int (isum (fun j => if mCnt N0 j f t then isum (fun k => if ((N0 (2 + 4 * cr j k)) = ki ∧ (N0 (2 + 4 * de j k)) = ot) ∨ ((N0 (2 + 4 * cr j k)) = ot ∧ (N0 (2 + 4 * de j k)) = ki) then mv j k else 0) (np j) else 0) j + isum (fun k => if ((N0 (2 + 4 * cr j k)) = ki ∧ (N0 (2 + 4 * de j k)) = ot) ∨ ((N0 (2 + 4 * cr j k)) = ot ∧ (N0 (2 + 4 * de j k)) = ki) then mv j k else 0) (np j))), (6, .int (nI (j + 1))), (7, .int (nI (np j)))]) rfl ?_
          refine V_goto 40 dX8_deals_155 (by decide) ?_
          refine V_dropL (L' := [(0, .ref (a 0)), (1, .int ki), (2, .int ot), (3, .int f), (4, .int t), (5, .int (isum (fun j => if mCnt N0 j f t then isum (fun k => if ((N0 (2 + 4 * cr j k)) = ki ∧ (N0 (2 + 4 * de j k)) = ot) ∨ ((N0 (2 + 4 * cr j k)) = ot ∧ (N0 (2 + 4 * de j k)) = ki) then mv j k else 0) (np j) else 0) j + isum (fun k => if ((N0 (2 + 4 * cr j k)) = ki ∧ (N0 (2 + 4 * de j k)) = ot) ∨ ((N0 (2 + 4 * cr j k)) = ot ∧ (N0 (2 + 4 * de j k)) = ki) then mv j k else 0) (np j))), (6, .int (nI (j + 1)))]) (L'' := [(7, .int (nI (np j)))]) rfl ?_
          rw [show isum (fun j => if mCnt N0 j f t then isum (fun k => if ((N0 (2 + 4 * cr j k)) = ki ∧ (N0 (2 + 4 * de j k)) = ot) ∨ ((N0 (2 + 4 * cr j k)) = ot ∧ (N0 (2 + 4 * de j k)) = ki) then mv j k else 0) (np j) else 0) j + isum (fun k => if ((N0 (2 + 4 * cr j k)) = ki ∧ (N0 (2 + 4 * de j k)) = ot) ∨ ((N0 (2 + 4 * cr j k)) = ot ∧ (N0 (2 + 4 * de j k)) = ki) then mv j k else 0) (np j) = isum (fun j => if mCnt N0 j f t then isum (fun k => if ((N0 (2 + 4 * cr j k)) = ki ∧ (N0 (2 + 4 * de j k)) = ot) ∨ ((N0 (2 + 4 * cr j k)) = ot ∧ (N0 (2 + 4 * de j k)) = ki) then mv j k else 0) (np j) else 0) (j + 1) by rw [isum, if_pos hcc]]
          exact ih (j + 1) (ng j) (np j) Y1 (by omega) (by omega) (hX.tr hs1)
      · have hcc : ¬ mCnt N0 j f t = true := by rw [← hX11, zc2]; decide
        refine V_goto 152 dX8_deals_63 (by decide) ?_
        refine V_iinc (nI (j + 1)) dX8_deals_152 6 rfl (nI_i1 j) rfl (L' := [(0, .ref (a 0)), (1, .int ki), (2, .int ot), (3, .int f), (4, .int t), (5, .int (isum (fun j => if mCnt N0 j f t then isum (fun k => if ((N0 (2 + 4 * cr j k)) = ki ∧ (N0 (2 + 4 * de j k)) = ot) ∨ ((N0 (2 + 4 * cr j k)) = ot ∧ (N0 (2 + 4 * de j k)) = ki) then mv j k else 0) (np j) else 0) j)), (6, .int (nI (j + 1)))]) rfl ?_
        refine V_goto 40 dX8_deals_155 (by decide) ?_
        rw [show isum (fun j => if mCnt N0 j f t then isum (fun k => if ((N0 (2 + 4 * cr j k)) = ki ∧ (N0 (2 + 4 * de j k)) = ot) ∨ ((N0 (2 + 4 * cr j k)) = ot ∧ (N0 (2 + 4 * de j k)) = ki) then mv j k else 0) (np j) else 0) j = isum (fun j => if mCnt N0 j f t then isum (fun k => if ((N0 (2 + 4 * cr j k)) = ki ∧ (N0 (2 + 4 * de j k)) = ot) ∨ ((N0 (2 + 4 * cr j k)) = ot ∧ (N0 (2 + 4 * de j k)) = ki) then mv j k else 0) (np j) else 0) (j + 1) by rw [isum, if_neg hcc]; rw [Int32.add_zero]]
        exact ih (j + 1) gs ps X (by omega) (by omega) hX

set_option maxRecDepth 100000 in
set_option maxHeartbeats 4000000 in
theorem lpi_M_apart (w : vWd) (a : Nat → Nat) (th : Int32) (Z : ZT) (sn : Nat) (X0 : Nat → Nat → Int32) (N0 : Nat → Int32) (h11 : X0 11 = N0) (f : Int32) (t : Int32) (na nj : Nat) (nl : Nat → Nat) (ac : Nat → Nat → Nat) (hN0 : okN N0 na nj nl ac) (np ng : Nat → Nat) (cr de : Nat → Nat → Nat) (mv gr : Nat → Nat → Int32) (hP0 : okP N0 na nj nl np ng cr de mv gr) (j : Nat) (hj : j < nj) (z0 : Int32) (X : Nat → Nat → Int32) (hX : sameX X0 X) (hpc : ∀ k, k < np j → X 20 k = nI (cr j k) ∧ X 21 k = nI (de j k) ∧ X 22 k = mv j k) (hnx : V w mX8_apart (vc w 13 0 0 (fun r x => r = some (.int ((isum (fun j => if mCnt N0 j f t then isum (fun k => if mCls (N0 (2 + 4 * cr j k)) (N0 (2 + 4 * de j k)) ≠ 4 ∨ (decide ((N0 (2 + 4 * cr j k)) = 1 ∨ (N0 (2 + 4 * cr j k)) = 2) = decide ((N0 (2 + 4 * de j k)) = 1 ∨ (N0 (2 + 4 * de j k)) = 2)) then 0 else if (N0 (2 + 4 * cr j k)) = 1 ∨ (N0 (2 + 4 * cr j k)) = 2 then -mv j k else mv j k) (np j) else 0) nj))) ∧ ∃ (gs ps : Nat) (X : Nat → Nat → Int32), x = cG w a th Z sn gs ps X ∧ sameX X0 X)) 0 0 128 [(0, .ref (a 0)), (1, .int f), (2, .int t), (3, .int (z0 + isum (fun k => if mCls (N0 (2 + 4 * cr j k)) (N0 (2 + 4 * de j k)) ≠ 4 ∨ (decide ((N0 (2 + 4 * cr j k)) = 1 ∨ (N0 (2 + 4 * cr j k)) = 2) = decide ((N0 (2 + 4 * de j k)) = 1 ∨ (N0 (2 + 4 * de j k)) = 2)) then 0 else if (N0 (2 + 4 * cr j k)) = 1 ∨ (N0 (2 + 4 * cr j k)) = 2 then -mv j k else mv j k) (np j))), (4, .int (nI j)), (5, .int (nI (np j)))] [] (cG w a th Z sn (ng j) (np j) X)) : ∀ (m : Nat) (k : Nat), (np j + 1 ≤ k + m) → (k ≤ np j) → V w mX8_apart (vc w 13 0 0 (fun r x => r = some (.int ((isum (fun j => if mCnt N0 j f t then isum (fun k => if mCls (N0 (2 + 4 * cr j k)) (N0 (2 + 4 * de j k)) ≠ 4 ∨ (decide ((N0 (2 + 4 * cr j k)) = 1 ∨ (N0 (2 + 4 * cr j k)) = 2) = decide ((N0 (2 + 4 * de j k)) = 1 ∨ (N0 (2 + 4 * de j k)) = 2)) then 0 else if (N0 (2 + 4 * cr j k)) = 1 ∨ (N0 (2 + 4 * cr j k)) = 2 then -mv j k else mv j k) (np j) else 0) nj))) ∧ ∃ (gs ps : Nat) (X : Nat → Nat → Int32), x = cG w a th Z sn gs ps X ∧ sameX X0 X)) 0 0 39 [(0, .ref (a 0)), (1, .int f), (2, .int t), (3, .int (z0 + isum (fun k => if mCls (N0 (2 + 4 * cr j k)) (N0 (2 + 4 * de j k)) ≠ 4 ∨ (decide ((N0 (2 + 4 * cr j k)) = 1 ∨ (N0 (2 + 4 * cr j k)) = 2) = decide ((N0 (2 + 4 * de j k)) = 1 ∨ (N0 (2 + 4 * de j k)) = 2)) then 0 else if (N0 (2 + 4 * cr j k)) = 1 ∨ (N0 (2 + 4 * cr j k)) = 2 then -mv j k else mv j k) k)), (4, .int (nI j)), (5, .int (nI k))] [] (cG w a th Z sn (ng j) (np j) X) := by
  intro m
  induction m with
  | zero =>
    intro k h1 h2
    exact absurd h1 (by omega)
  | succ m ih =>
    intro k h1 h2
    have hX11 : X 11 = N0 := hX.2.1.trans h11
    have hN : okN (X 11) na nj nl ac := by rw [hX11]; exact hN0
    have hP : okP (X 11) na nj nl np ng cr de mv gr := by rw [hX11]; exact hP0
    obtain ⟨hn0, hn1, hna, hnj, hnl, hac⟩ := id hN
    have hp6 := hP0.1
    have hpb := hP0.2.1
    obtain ⟨hpj, hgj⟩ := hp6 j hj
    refine V_iload dX8_apart_39 5 rfl ?_
    refine V_aload_n dX8_apart_41 0 rfl ?_
    refine V_get dX8_apart_42 fX8_196 0 rfl rfl ?_
    refine V_icmp_ge_n k (np j) 128 dX8_apart_45 (by decide) (by omega) (by omega) (fun zc1 => ?_) (fun zc1 => ?_)
    · obtain rfl : k = np j := by omega
      exact hnx
    · have hbk := hpb j k hj (by omega)
      refine V_aload_n dX8_apart_48 0 rfl ?_
      refine V_aload_n dX8_apart_49 0 rfl ?_
      refine V_get dX8_apart_50 fX8_94 0 rfl rfl ?_
      refine V_iload dX8_apart_53 5 rfl ?_
      refine V_iald dX8_apart_55 8 rfl rfl k rfl (by omega) ?_
      refine V_casti (y := nI (cr j k)) (hpc k (by omega)).1 ?_
      refine V_selfR dX8_apart_56 lX8_203 (e_M_kindOf w a th Z sn (ng j) (np j) X (cr j k) (by omega)) rfl rfl 0 rfl rfl rfl rfl ?_
      refine V_purS dX8_apart_59 lX8_231 (c_M_isOfProfit w (X 11 (2 + 4 * (cr j k)))) rfl rfl rfl ?_
      refine V_istore dX8_apart_62 rfl (L' := [(0, .ref (a 0)), (1, .int f), (2, .int t), (3, .int (z0 + isum (fun k => if mCls (N0 (2 + 4 * cr j k)) (N0 (2 + 4 * de j k)) ≠ 4 ∨ (decide ((N0 (2 + 4 * cr j k)) = 1 ∨ (N0 (2 + 4 * cr j k)) = 2) = decide ((N0 (2 + 4 * de j k)) = 1 ∨ (N0 (2 + 4 * de j k)) = 2)) then 0 else if (N0 (2 + 4 * cr j k)) = 1 ∨ (N0 (2 + 4 * cr j k)) = 2 then -mv j k else mv j k) k)), (4, .int (nI j)), (5, .int (nI k)), (6, .int (bi (decide ((X 11 (2 + 4 * (cr j k))) = 1 ∨ (X 11 (2 + 4 * (cr j k))) = 2))))]) rfl ?_
      refine V_aload_n dX8_apart_64 0 rfl ?_
      refine V_iload dX8_apart_65 5 rfl ?_
      refine V_selfR dX8_apart_67 lX8_221 (e_M_classOf w a th Z sn (ng j) (np j) X k (cr j k) (de j k) (by omega) (hpc k (by omega)).1 (hpc k (by omega)).2.1 (by omega) (by omega)) rfl rfl 0 rfl rfl rfl rfl ?_
      refine V_iconst 4 dX8_apart_70 (by decide) ?_
      refine V_icmp_ne 122 dX8_apart_71 (by decide) (fun zc2 => ?_) (fun zc2 => ?_)
      · refine V_iinc (nI (k + 1)) dX8_apart_122 5 rfl (nI_i1 k) rfl (L' := [(0, .ref (a 0)), (1, .int f), (2, .int t), (3, .int (z0 + isum (fun k => if mCls (N0 (2 + 4 * cr j k)) (N0 (2 + 4 * de j k)) ≠ 4 ∨ (decide ((N0 (2 + 4 * cr j k)) = 1 ∨ (N0 (2 + 4 * cr j k)) = 2) = decide ((N0 (2 + 4 * de j k)) = 1 ∨ (N0 (2 + 4 * de j k)) = 2)) then 0 else if (N0 (2 + 4 * cr j k)) = 1 ∨ (N0 (2 + 4 * cr j k)) = 2 then -mv j k else mv j k) k)), (4, .int (nI j)), (5, .int (nI (k + 1))), (6, .int (bi (decide ((X 11 (2 + 4 * (cr j k))) = 1 ∨ (X 11 (2 + 4 * (cr j k))) = 2))))]) rfl ?_
        refine V_goto 39 dX8_apart_125 (by decide) ?_
        refine V_dropL (L' := [(0, .ref (a 0)), (1, .int f), (2, .int t), (3, .int (z0 + isum (fun k => if mCls (N0 (2 + 4 * cr j k)) (N0 (2 + 4 * de j k)) ≠ 4 ∨ (decide ((N0 (2 + 4 * cr j k)) = 1 ∨ (N0 (2 + 4 * cr j k)) = 2) = decide ((N0 (2 + 4 * de j k)) = 1 ∨ (N0 (2 + 4 * de j k)) = 2)) then 0 else if (N0 (2 + 4 * cr j k)) = 1 ∨ (N0 (2 + 4 * cr j k)) = 2 then -mv j k else mv j k) k)), (4, .int (nI j)), (5, .int (nI (k + 1)))]) (L'' := [(6, .int (bi (decide ((X 11 (2 + 4 * (cr j k))) = 1 ∨ (X 11 (2 + 4 * (cr j k))) = 2))))]) rfl ?_
        rw [show z0 + isum (fun k => if mCls (N0 (2 + 4 * cr j k)) (N0 (2 + 4 * de j k)) ≠ 4 ∨ (decide ((N0 (2 + 4 * cr j k)) = 1 ∨ (N0 (2 + 4 * cr j k)) = 2) = decide ((N0 (2 + 4 * de j k)) = 1 ∨ (N0 (2 + 4 * de j k)) = 2)) then 0 else if (N0 (2 + 4 * cr j k)) = 1 ∨ (N0 (2 + 4 * cr j k)) = 2 then -mv j k else mv j k) k = z0 + isum (fun k => if mCls (N0 (2 + 4 * cr j k)) (N0 (2 + 4 * de j k)) ≠ 4 ∨ (decide ((N0 (2 + 4 * cr j k)) = 1 ∨ (N0 (2 + 4 * cr j k)) = 2) = decide ((N0 (2 + 4 * de j k)) = 1 ∨ (N0 (2 + 4 * de j k)) = 2)) then 0 else if (N0 (2 + 4 * cr j k)) = 1 ∨ (N0 (2 + 4 * cr j k)) = 2 then -mv j k else mv j k) (k + 1) by rw [← isum_s]; clear ih hN hP hnl hac hnx hP0 hN0 hpc; subst hX11; grind [Int32.add_zero, Int32.or_zero]]
        exact ih (k + 1) (by omega) (by omega)
      · refine V_iload dX8_apart_74 6 rfl ?_
        refine V_aload_n dX8_apart_76 0 rfl ?_
        refine V_aload_n dX8_apart_77 0 rfl ?_
        refine V_get dX8_apart_78 fX8_97 0 rfl rfl ?_
        refine V_iload dX8_apart_81 5 rfl ?_
        refine V_iald dX8_apart_83 9 rfl rfl k rfl (by omega) ?_
        refine V_casti (y := nI (de j k)) (hpc k (by omega)).2.1 ?_
        refine V_selfR dX8_apart_84 lX8_203 (e_M_kindOf w a th Z sn (ng j) (np j) X (de j k) (by omega)) rfl rfl 0 rfl rfl rfl rfl ?_
        refine V_purS dX8_apart_87 lX8_231 (c_M_isOfProfit w (X 11 (2 + 4 * (de j k)))) rfl rfl rfl ?_
        refine V_icmp_ne_bb (b := decide ((X 11 (2 + 4 * (cr j k))) = 1 ∨ (X 11 (2 + 4 * (cr j k))) = 2)) (c := decide ((X 11 (2 + 4 * (de j k))) = 1 ∨ (X 11 (2 + 4 * (de j k))) = 2)) 96 dX8_apart_90 (by decide) (fun zc3 => ?_) (fun zc3 => ?_)
        · refine V_iload_n dX8_apart_96 3 rfl ?_
          refine V_iload dX8_apart_97 6 rfl ?_
          refine V_ifeq_b 113 dX8_apart_99 (by decide) (fun zc4 => ?_) (fun zc4 => ?_)
          · refine V_aload_n dX8_apart_113 0 rfl ?_
            refine V_get dX8_apart_114 fX8_100 0 rfl rfl ?_
            refine V_iload dX8_apart_117 5 rfl ?_
            refine V_iald dX8_apart_119 10 rfl rfl k rfl (by omega) ?_
            refine V_casti (y := mv j k) (hpc k (by omega)).2.2 ?_
            refine V_iadd dX8_apart_120 ?_
            refine V_istore_n dX8_apart_121 rfl (L' := [(0, .ref (a 0)), (1, .int f), (2, .int t), (3, .int ((z0 + isum (fun k => if mCls (N0 (2 + 4 * cr j k)) (N0 (2 + 4 * de j k)) ≠ 4 ∨ (decide ((N0 (2 + 4 * cr j k)) = 1 ∨ (N0 (2 + 4 * cr j k)) = 2) = decide ((N0 (2 + 4 * de j k)) = 1 ∨ (N0 (2 + 4 * de j k)) = 2)) then 0 else if (N0 (2 + 4 * cr j k)) = 1 ∨ (N0 (2 + 4 * cr j k)) = 2 then -mv j k else mv j k) k) + (mv j k))), (4, .int (nI j)), (5, .int (nI k)), (6, .int (bi (decide ((X 11 (2 + 4 * (cr j k))) = 1 ∨ (X 11 (2 + 4 * (cr j k))) = 2))))]) rfl ?_
            refine V_iinc (nI (k + 1)) dX8_apart_122 5 rfl (nI_i1 k) rfl (L' := [(0, .ref (a 0)), (1, .int f), (2, .int t), (3, .int ((z0 + isum (fun k => if mCls (N0 (2 + 4 * cr j k)) (N0 (2 + 4 * de j k)) ≠ 4 ∨ (decide ((N0 (2 + 4 * cr j k)) = 1 ∨ (N0 (2 + 4 * cr j k)) = 2) = decide ((N0 (2 + 4 * de j k)) = 1 ∨ (N0 (2 + 4 * de j k)) = 2)) then 0 else if (N0 (2 + 4 * cr j k)) = 1 ∨ (N0 (2 + 4 * cr j k)) = 2 then -mv j k else mv j k) k) + (mv j k))), (4, .int (nI j)), (5, .int (nI (k + 1))), (6, .int (bi (decide ((X 11 (2 + 4 * (cr j k))) = 1 ∨ (X 11 (2 + 4 * (cr j k))) = 2))))]) rfl ?_
            refine V_goto 39 dX8_apart_125 (by decide) ?_
            refine V_dropL (L' := [(0, .ref (a 0)), (1, .int f), (2, .int t), (3, .int ((z0 + isum (fun k => if mCls (N0 (2 + 4 * cr j k)) (N0 (2 + 4 * de j k)) ≠ 4 ∨ (decide ((N0 (2 + 4 * cr j k)) = 1 ∨ (N0 (2 + 4 * cr j k)) = 2) = decide ((N0 (2 + 4 * de j k)) = 1 ∨ (N0 (2 + 4 * de j k)) = 2)) then 0 else if (N0 (2 + 4 * cr j k)) = 1 ∨ (N0 (2 + 4 * cr j k)) = 2 then -mv j k else mv j k) k) + (mv j k))), (4, .int (nI j)), (5, .int (nI (k + 1)))]) (L'' := [(6, .int (bi (decide ((X 11 (2 + 4 * (cr j k))) = 1 ∨ (X 11 (2 + 4 * (cr j k))) = 2))))]) rfl ?_
            rw [show (z0 + isum (fun k => if mCls (N0 (2 + 4 * cr j k)) (N0 (2 + 4 * de j k)) ≠ 4 ∨ (decide ((N0 (2 + 4 * cr j k)) = 1 ∨ (N0 (2 + 4 * cr j k)) = 2) = decide ((N0 (2 + 4 * de j k)) = 1 ∨ (N0 (2 + 4 * de j k)) = 2)) then 0 else if (N0 (2 + 4 * cr j k)) = 1 ∨ (N0 (2 + 4 * cr j k)) = 2 then -mv j k else mv j k) k) + (mv j k) = z0 + isum (fun k => if mCls (N0 (2 + 4 * cr j k)) (N0 (2 + 4 * de j k)) ≠ 4 ∨ (decide ((N0 (2 + 4 * cr j k)) = 1 ∨ (N0 (2 + 4 * cr j k)) = 2) = decide ((N0 (2 + 4 * de j k)) = 1 ∨ (N0 (2 + 4 * de j k)) = 2)) then 0 else if (N0 (2 + 4 * cr j k)) = 1 ∨ (N0 (2 + 4 * cr j k)) = 2 then -mv j k else mv j k) (k + 1) by rw [← isum_s]; clear ih hN hP hnl hac hnx hP0 hN0 hpc; subst hX11; grind [Int32.add_zero, Int32.or_zero]]
            exact ih (k + 1) (by omega) (by omega)
          · refine V_aload_n dX8_apart_102 0 rfl ?_
            refine V_get dX8_apart_103 fX8_100 0 rfl rfl ?_
            refine V_iload dX8_apart_106 5 rfl ?_
            refine V_iald dX8_apart_108 10 rfl rfl k rfl (by omega) ?_
            refine V_casti (y := mv j k) (hpc k (by omega)).2.2 ?_
            refine V_ineg dX8_apart_109 ?_
            refine V_goto 120 dX8_apart_110 (by decide) ?_
            refine V_iadd dX8_apart_120 ?_
            refine V_istore_n dX8_apart_121 rfl (L' := [(0, .ref (a 0)), (1, .int f), (2, .int t), (3, .int ((z0 + isum (fun k => if mCls (N0 (2 + 4 * cr j k)) (N0 (2 + 4 * de j k)) ≠ 4 ∨ (decide ((N0 (2 + 4 * cr j k)) = 1 ∨ (N0 (2 + 4 * cr j k)) = 2) = decide ((N0 (2 + 4 * de j k)) = 1 ∨ (N0 (2 + 4 * de j k)) = 2)) then 0 else if (N0 (2 + 4 * cr j k)) = 1 ∨ (N0 (2 + 4 * cr j k)) = 2 then -mv j k else mv j k) k) + (-(mv j k)))), (4, .int (nI j)), (5, .int (nI k)), (6, .int (bi (decide ((X 11 (2 + 4 * (cr j k))) = 1 ∨ (X 11 (2 + 4 * (cr j k))) = 2))))]) rfl ?_
            refine V_iinc (nI (k + 1)) dX8_apart_122 5 rfl (nI_i1 k) rfl (L' := [(0, .ref (a 0)), (1, .int f), (2, .int t), (3, .int ((z0 + isum (fun k => if mCls (N0 (2 + 4 * cr j k)) (N0 (2 + 4 * de j k)) ≠ 4 ∨ (decide ((N0 (2 + 4 * cr j k)) = 1 ∨ (N0 (2 + 4 * cr j k)) = 2) = decide ((N0 (2 + 4 * de j k)) = 1 ∨ (N0 (2 + 4 * de j k)) = 2)) then 0 else if (N0 (2 + 4 * cr j k)) = 1 ∨ (N0 (2 + 4 * cr j k)) = 2 then -mv j k else mv j k) k) + (-(mv j k)))), (4, .int (nI j)), (5, .int (nI (k + 1))), (6, .int (bi (decide ((X 11 (2 + 4 * (cr j k))) = 1 ∨ (X 11 (2 + 4 * (cr j k))) = 2))))]) rfl ?_
            refine V_goto 39 dX8_apart_125 (by decide) ?_
            refine V_dropL (L' := [(0, .ref (a 0)), (1, .int f), (2, .int t), (3, .int ((z0 + isum (fun k => if mCls (N0 (2 + 4 * cr j k)) (N0 (2 + 4 * de j k)) ≠ 4 ∨ (decide ((N0 (2 + 4 * cr j k)) = 1 ∨ (N0 (2 + 4 * cr j k)) = 2) = decide ((N0 (2 + 4 * de j k)) = 1 ∨ (N0 (2 + 4 * de j k)) = 2)) then 0 else if (N0 (2 + 4 * cr j k)) = 1 ∨ (N0 (2 + 4 * cr j k)) = 2 then -mv j k else mv j k) k) + (-(mv j k)))), (4, .int (nI j)), (5, .int (nI (k + 1)))]) (L'' := [(6, .int (bi (decide ((X 11 (2 + 4 * (cr j k))) = 1 ∨ (X 11 (2 + 4 * (cr j k))) = 2))))]) rfl ?_
            rw [show (z0 + isum (fun k => if mCls (N0 (2 + 4 * cr j k)) (N0 (2 + 4 * de j k)) ≠ 4 ∨ (decide ((N0 (2 + 4 * cr j k)) = 1 ∨ (N0 (2 + 4 * cr j k)) = 2) = decide ((N0 (2 + 4 * de j k)) = 1 ∨ (N0 (2 + 4 * de j k)) = 2)) then 0 else if (N0 (2 + 4 * cr j k)) = 1 ∨ (N0 (2 + 4 * cr j k)) = 2 then -mv j k else mv j k) k) + (-(mv j k)) = z0 + isum (fun k => if mCls (N0 (2 + 4 * cr j k)) (N0 (2 + 4 * de j k)) ≠ 4 ∨ (decide ((N0 (2 + 4 * cr j k)) = 1 ∨ (N0 (2 + 4 * cr j k)) = 2) = decide ((N0 (2 + 4 * de j k)) = 1 ∨ (N0 (2 + 4 * de j k)) = 2)) then 0 else if (N0 (2 + 4 * cr j k)) = 1 ∨ (N0 (2 + 4 * cr j k)) = 2 then -mv j k else mv j k) (k + 1) by rw [← isum_s]; clear ih hN hP hnl hac hnx hP0 hN0 hpc; subst hX11; grind [Int32.add_zero, Int32.or_zero]]
            exact ih (k + 1) (by omega) (by omega)
        · refine V_goto 122 dX8_apart_93 (by decide) ?_
          refine V_iinc (nI (k + 1)) dX8_apart_122 5 rfl (nI_i1 k) rfl (L' := [(0, .ref (a 0)), (1, .int f), (2, .int t), (3, .int (z0 + isum (fun k => if mCls (N0 (2 + 4 * cr j k)) (N0 (2 + 4 * de j k)) ≠ 4 ∨ (decide ((N0 (2 + 4 * cr j k)) = 1 ∨ (N0 (2 + 4 * cr j k)) = 2) = decide ((N0 (2 + 4 * de j k)) = 1 ∨ (N0 (2 + 4 * de j k)) = 2)) then 0 else if (N0 (2 + 4 * cr j k)) = 1 ∨ (N0 (2 + 4 * cr j k)) = 2 then -mv j k else mv j k) k)), (4, .int (nI j)), (5, .int (nI (k + 1))), (6, .int (bi (decide ((X 11 (2 + 4 * (cr j k))) = 1 ∨ (X 11 (2 + 4 * (cr j k))) = 2))))]) rfl ?_
          refine V_goto 39 dX8_apart_125 (by decide) ?_
          refine V_dropL (L' := [(0, .ref (a 0)), (1, .int f), (2, .int t), (3, .int (z0 + isum (fun k => if mCls (N0 (2 + 4 * cr j k)) (N0 (2 + 4 * de j k)) ≠ 4 ∨ (decide ((N0 (2 + 4 * cr j k)) = 1 ∨ (N0 (2 + 4 * cr j k)) = 2) = decide ((N0 (2 + 4 * de j k)) = 1 ∨ (N0 (2 + 4 * de j k)) = 2)) then 0 else if (N0 (2 + 4 * cr j k)) = 1 ∨ (N0 (2 + 4 * cr j k)) = 2 then -mv j k else mv j k) k)), (4, .int (nI j)), (5, .int (nI (k + 1)))]) (L'' := [(6, .int (bi (decide ((X 11 (2 + 4 * (cr j k))) = 1 ∨ (X 11 (2 + 4 * (cr j k))) = 2))))]) rfl ?_
          rw [show z0 + isum (fun k => if mCls (N0 (2 + 4 * cr j k)) (N0 (2 + 4 * de j k)) ≠ 4 ∨ (decide ((N0 (2 + 4 * cr j k)) = 1 ∨ (N0 (2 + 4 * cr j k)) = 2) = decide ((N0 (2 + 4 * de j k)) = 1 ∨ (N0 (2 + 4 * de j k)) = 2)) then 0 else if (N0 (2 + 4 * cr j k)) = 1 ∨ (N0 (2 + 4 * cr j k)) = 2 then -mv j k else mv j k) k = z0 + isum (fun k => if mCls (N0 (2 + 4 * cr j k)) (N0 (2 + 4 * de j k)) ≠ 4 ∨ (decide ((N0 (2 + 4 * cr j k)) = 1 ∨ (N0 (2 + 4 * cr j k)) = 2) = decide ((N0 (2 + 4 * de j k)) = 1 ∨ (N0 (2 + 4 * de j k)) = 2)) then 0 else if (N0 (2 + 4 * cr j k)) = 1 ∨ (N0 (2 + 4 * cr j k)) = 2 then -mv j k else mv j k) (k + 1) by rw [← isum_s]; clear ih hN hP hnl hac hnx hP0 hN0 hpc; subst hX11; grind [Int32.add_zero, Int32.or_zero]]
          exact ih (k + 1) (by omega) (by omega)

set_option maxRecDepth 100000 in
set_option maxHeartbeats 4000000 in
theorem lp_M_apart (w : vWd) (a : Nat → Nat) (th : Int32) (Z : ZT) (sn : Nat) (X0 : Nat → Nat → Int32) (N0 : Nat → Int32) (h11 : X0 11 = N0) (f : Int32) (t : Int32) (na nj : Nat) (nl : Nat → Nat) (ac : Nat → Nat → Nat) (hN0 : okN N0 na nj nl ac) (np ng : Nat → Nat) (cr de : Nat → Nat → Nat) (mv gr : Nat → Nat → Int32) (hP0 : okP N0 na nj nl np ng cr de mv gr) : ∀ (m : Nat) (j gs ps : Nat) (X : Nat → Nat → Int32), (nj + 1 ≤ j + m) → (j ≤ nj) → (sameX X0 X) → V w mX8_apart (vc w 13 0 0 (fun r x => r = some (.int ((isum (fun j => if mCnt N0 j f t then isum (fun k => if mCls (N0 (2 + 4 * cr j k)) (N0 (2 + 4 * de j k)) ≠ 4 ∨ (decide ((N0 (2 + 4 * cr j k)) = 1 ∨ (N0 (2 + 4 * cr j k)) = 2) = decide ((N0 (2 + 4 * de j k)) = 1 ∨ (N0 (2 + 4 * de j k)) = 2)) then 0 else if (N0 (2 + 4 * cr j k)) = 1 ∨ (N0 (2 + 4 * cr j k)) = 2 then -mv j k else mv j k) (np j) else 0) nj))) ∧ ∃ (gs ps : Nat) (X : Nat → Nat → Int32), x = cG w a th Z sn gs ps X ∧ sameX X0 X)) 0 0 5 [(0, .ref (a 0)), (1, .int f), (2, .int t), (3, .int (isum (fun j => if mCnt N0 j f t then isum (fun k => if mCls (N0 (2 + 4 * cr j k)) (N0 (2 + 4 * de j k)) ≠ 4 ∨ (decide ((N0 (2 + 4 * cr j k)) = 1 ∨ (N0 (2 + 4 * cr j k)) = 2) = decide ((N0 (2 + 4 * de j k)) = 1 ∨ (N0 (2 + 4 * de j k)) = 2)) then 0 else if (N0 (2 + 4 * cr j k)) = 1 ∨ (N0 (2 + 4 * cr j k)) = 2 then -mv j k else mv j k) (np j) else 0) j)), (4, .int (nI j))] [] (cG w a th Z sn gs ps X) := by
  intro m
  induction m with
  | zero =>
    intro j gs ps X h1 h2 hX
    exact absurd h1 (by omega)
  | succ m ih =>
    intro j gs ps X h1 h2 hX
    have hX11 : X 11 = N0 := hX.2.1.trans h11
    have hN : okN (X 11) na nj nl ac := by rw [hX11]; exact hN0
    have hP : okP (X 11) na nj nl np ng cr de mv gr := by rw [hX11]; exact hP0
    obtain ⟨hn0, hn1, hna, hnj, hnl, hac⟩ := id hN
    have hp6 := hP0.1
    have hpb := hP0.2.1
    refine V_iload dX8_apart_5 4 rfl ?_
    refine V_aload_n dX8_apart_7 0 rfl ?_
    refine V_get dX8_apart_8 fX8_76 0 rfl rfl ?_
    refine V_iconst 1 dX8_apart_11 (by decide) ?_
    refine V_iald dX8_apart_12 2 rfl rfl 1 rfl (by omega) ?_
    refine V_casti (y := nI nj) hn1 ?_
    refine V_icmp_ge_n j nj 134 dX8_apart_13 (by decide) (by omega) (by omega) (fun zc1 => ?_) (fun zc1 => ?_)
    · refine V_iload_n dX8_apart_134 3 rfl ?_
      refine V_iret dX8_apart_135 rfl (nb rfl) (nb rfl) ?_
      obtain rfl : j = nj := by omega
      exact ⟨rfl, gs, ps, X, rfl, hX⟩
    · refine V_aload_n dX8_apart_16 0 rfl ?_
      refine V_iload dX8_apart_17 4 rfl ?_
      refine V_iload_n dX8_apart_19 1 rfl ?_
      refine V_iload_n dX8_apart_20 2 rfl ?_
      refine V_selfR dX8_apart_21 lX8_176 (e_M_counts w a th Z sn gs ps X j f t (by omega)) rfl rfl 0 rfl rfl rfl rfl ?_
      refine V_ifne_b 30 dX8_apart_24 (by decide) (fun zc2 => ?_) (fun zc2 => ?_)
      · have hcc : mCnt N0 j f t = true := by rw [← hX11]; exact zc2
        refine V_aload_n dX8_apart_30 0 rfl ?_
        refine V_iload dX8_apart_31 4 rfl ?_
        refine V_selfQ dX8_apart_33 lX8_218 (e_M_lp w a th Z sn gs ps X j na nj nl ac hN (by omega) np ng cr de mv gr hP) rfl rfl 0 rfl rfl rfl rfl ?_
        rintro r9 x9 ⟨rfl, Y1, rfl, hs1, hpc1, hgr1⟩
        refine V_iconst 0 dX8_apart_36 (by decide) ?_
        refine V_istore dX8_apart_37 rfl (L' := [(0, .ref (a 0)), (1, .int f), (2, .int t), (3, .int (isum (fun j => if mCnt N0 j f t then isum (fun k => if mCls (N0 (2 + 4 * cr j k)) (N0 (2 + 4 * de j k)) ≠ 4 ∨ (decide ((N0 (2 + 4 * cr j k)) = 1 ∨ (N0 (2 + 4 * cr j k)) = 2) = decide ((N0 (2 + 4 * de j k)) = 1 ∨ (N0 (2 + 4 * de j k)) = 2)) then 0 else if (N0 (2 + 4 * cr j k)) = 1 ∨ (N0 (2 + 4 * cr j k)) = 2 then -mv j k else mv j k) (np j) else 0) j)), (4, .int (nI j)), (5, .int 0)]) rfl ?_
        refine V_L ?_ (lpi_M_apart w a th Z sn X0 N0 h11 f t na nj nl ac hN0 np ng cr de mv gr hP0 j (by omega) (isum (fun j => if mCnt N0 j f t then isum (fun k => if mCls (N0 (2 + 4 * cr j k)) (N0 (2 + 4 * de j k)) ≠ 4 ∨ (decide ((N0 (2 + 4 * cr j k)) = 1 ∨ (N0 (2 + 4 * cr j k)) = 2) = decide ((N0 (2 + 4 * de j k)) = 1 ∨ (N0 (2 + 4 * de j k)) = 2)) then 0 else if (N0 (2 + 4 * cr j k)) = 1 ∨ (N0 (2 + 4 * cr j k)) = 2 then -mv j k else mv j k) (np j) else 0) j) Y1 (hX.tr hs1) hpc1 ?_ (np j + 1) 0 (by omega) (by omega))
        · rw [← isum_0]; rfl
        · refine V_iinc (nI (j + 1)) dX8_apart_128 4 rfl (nI_i1 j) rfl (L' := [(0, .ref (a 0)), (1, .int f), (2, .int t), (3, .int (isum (fun j => if mCnt N0 j f t then isum (fun k => if mCls (N0 (2 + 4 * cr j k)) (N0 (2 + 4 * de j k)) ≠ 4 ∨ (decide ((N0 (2 + 4 * cr j k)) = 1 ∨ (N0 (2 + 4 * cr j k)) = 2) = decide ((N0 (2 + 4 * de j k)) = 1 ∨ (N0 (2 + 4 * de j k)) = 2)) then 0 else if (N0 (2 + 4 * cr j k)) = 1 ∨ (N0 (2 + 4 * cr j k)) = 2 then -mv j k else mv j k) (np j) else 0) j + isum (fun k => if mCls (N0 (2 + 4 * cr j k)) (N0 (2 + 4 * de j k)) ≠ 4 ∨ (decide ((N0 (2 + 4 * cr j k)) = 1 ∨ (N0 (2 + 4 * cr j k)) = 2) = decide ((N0 (2 + 4 * de j k)) = 1 ∨ (N0 (2 + 4 * de j k)) = 2)) then 0 else if (N0 (2 + 4 * cr j k)) = 1 ∨ (N0 (2 + 4 * cr j k)) = 2 then -mv j k else mv j k) (np j))), (4, .int (nI (j + 1))), (5, .int (nI (np j)))]) rfl ?_
          refine V_goto 5 dX8_apart_131 (by decide) ?_
          refine V_dropL (L' := [(0, .ref (a 0)), (1, .int f), (2, .int t), (3, .int (isum (fun j => if mCnt N0 j f t then isum (fun k => if mCls (N0 (2 + 4 * cr j k)) (N0 (2 + 4 * de j k)) ≠ 4 ∨ (decide ((N0 (2 + 4 * cr j k)) = 1 ∨ (N0 (2 + 4 * cr j k)) = 2) = decide ((N0 (2 + 4 * de j k)) = 1 ∨ (N0 (2 + 4 * de j k)) = 2)) then 0 else if (N0 (2 + 4 * cr j k)) = 1 ∨ (N0 (2 + 4 * cr j k)) = 2 then -mv j k else mv j k) (np j) else 0) j + isum (fun k => if mCls (N0 (2 + 4 * cr j k)) (N0 (2 + 4 * de j k)) ≠ 4 ∨ (decide ((N0 (2 + 4 * cr j k)) = 1 ∨ (N0 (2 + 4 * cr j k)) = 2) = decide ((N0 (2 + 4 * de j k)) = 1 ∨ (N0 (2 + 4 * de j k)) = 2)) then 0 else if (N0 (2 + 4 * cr j k)) = 1 ∨ (N0 (2 + 4 * cr j k)) = 2 then -mv j k else mv j k) (np j))), (4, .int (nI (j + 1)))]) (L'' := [(5, .int (nI (np j)))]) rfl ?_
          rw [show isum (fun j => if mCnt N0 j f t then isum (fun k => if mCls (N0 (2 + 4 * cr j k)) (N0 (2 + 4 * de j k)) ≠ 4 ∨ (decide ((N0 (2 + 4 * cr j k)) = 1 ∨ (N0 (2 + 4 * cr j k)) = 2) = decide ((N0 (2 + 4 * de j k)) = 1 ∨ (N0 (2 + 4 * de j k)) = 2)) then 0 else if (N0 (2 + 4 * cr j k)) = 1 ∨ (N0 (2 + 4 * cr j k)) = 2 then -mv j k else mv j k) (np j) else 0) j + isum (fun k => if mCls (N0 (2 + 4 * cr j k)) (N0 (2 + 4 * de j k)) ≠ 4 ∨ (decide ((N0 (2 + 4 * cr j k)) = 1 ∨ (N0 (2 + 4 * cr j k)) = 2) = decide ((N0 (2 + 4 * de j k)) = 1 ∨ (N0 (2 + 4 * de j k)) = 2)) then 0 else if (N0 (2 + 4 * cr j k)) = 1 ∨ (N0 (2 + 4 * cr j k)) = 2 then -mv j k else mv j k) (np j) = isum (fun j => if mCnt N0 j f t then isum (fun k => if mCls (N0 (2 + 4 * cr j k)) (N0 (2 + 4 * de j k)) ≠ 4 ∨ (decide ((N0 (2 + 4 * cr j k)) = 1 ∨ (N0 (2 + 4 * cr j k)) = 2) = decide ((N0 (2 + 4 * de j k)) = 1 ∨ (N0 (2 + 4 * de j k)) = 2)) then 0 else if (N0 (2 + 4 * cr j k)) = 1 ∨ (N0 (2 + 4 * cr j k)) = 2 then -mv j k else mv j k) (np j) else 0) (j + 1) by rw [isum, if_pos hcc]]
          exact ih (j + 1) (ng j) (np j) Y1 (by omega) (by omega) (hX.tr hs1)
      · have hcc : ¬ mCnt N0 j f t = true := by rw [← hX11, zc2]; decide
        refine V_goto 128 dX8_apart_27 (by decide) ?_
        refine V_iinc (nI (j + 1)) dX8_apart_128 4 rfl (nI_i1 j) rfl (L' := [(0, .ref (a 0)), (1, .int f), (2, .int t), (3, .int (isum (fun j => if mCnt N0 j f t then isum (fun k => if mCls (N0 (2 + 4 * cr j k)) (N0 (2 + 4 * de j k)) ≠ 4 ∨ (decide ((N0 (2 + 4 * cr j k)) = 1 ∨ (N0 (2 + 4 * cr j k)) = 2) = decide ((N0 (2 + 4 * de j k)) = 1 ∨ (N0 (2 + 4 * de j k)) = 2)) then 0 else if (N0 (2 + 4 * cr j k)) = 1 ∨ (N0 (2 + 4 * cr j k)) = 2 then -mv j k else mv j k) (np j) else 0) j)), (4, .int (nI (j + 1)))]) rfl ?_
        refine V_goto 5 dX8_apart_131 (by decide) ?_
        rw [show isum (fun j => if mCnt N0 j f t then isum (fun k => if mCls (N0 (2 + 4 * cr j k)) (N0 (2 + 4 * de j k)) ≠ 4 ∨ (decide ((N0 (2 + 4 * cr j k)) = 1 ∨ (N0 (2 + 4 * cr j k)) = 2) = decide ((N0 (2 + 4 * de j k)) = 1 ∨ (N0 (2 + 4 * de j k)) = 2)) then 0 else if (N0 (2 + 4 * cr j k)) = 1 ∨ (N0 (2 + 4 * cr j k)) = 2 then -mv j k else mv j k) (np j) else 0) j = isum (fun j => if mCnt N0 j f t then isum (fun k => if mCls (N0 (2 + 4 * cr j k)) (N0 (2 + 4 * de j k)) ≠ 4 ∨ (decide ((N0 (2 + 4 * cr j k)) = 1 ∨ (N0 (2 + 4 * cr j k)) = 2) = decide ((N0 (2 + 4 * de j k)) = 1 ∨ (N0 (2 + 4 * de j k)) = 2)) then 0 else if (N0 (2 + 4 * cr j k)) = 1 ∨ (N0 (2 + 4 * cr j k)) = 2 then -mv j k else mv j k) (np j) else 0) (j + 1) by rw [isum, if_neg hcc]; rw [Int32.add_zero]]
        exact ih (j + 1) gs ps X (by omega) (by omega) hX

set_option maxRecDepth 100000 in
set_option maxHeartbeats 4000000 in
theorem lpi_M_direct (w : vWd) (a : Nat → Nat) (th : Int32) (Z : ZT) (sn : Nat) (X0 : Nat → Nat → Int32) (N0 : Nat → Int32) (h11 : X0 11 = N0) (so : Int32) (f : Int32) (t : Int32) (wh : Int32) (na nj : Nat) (nl : Nat → Nat) (ac : Nat → Nat → Nat) (hN0 : okN N0 na nj nl ac) (np ng : Nat → Nat) (cr de : Nat → Nat → Nat) (mv gr : Nat → Nat → Int32) (hP0 : okP N0 na nj nl np ng cr de mv gr) (j : Nat) (hj : j < nj) (z0 z1 : Int32) (X : Nat → Nat → Int32) (hX : sameX X0 X) (hpc : ∀ k, k < np j → X 20 k = nI (cr j k) ∧ X 21 k = nI (de j k) ∧ X 22 k = mv j k) (hnx : V w mX8_direct (vc w 13 0 0 (fun r x => r = some (.int (if wh = 0 then (isum (fun j => if mCnt N0 j f t then isum (fun k => if mCls (N0 (2 + 4 * cr j k)) (N0 (2 + 4 * de j k)) = so ∧ (N0 (2 + 4 * de j k)) = 0 then mv j k else 0) (np j) else 0) nj) else if wh = 1 then (isum (fun j => if mCnt N0 j f t then isum (fun k => if mCls (N0 (2 + 4 * cr j k)) (N0 (2 + 4 * de j k)) = so ∧ (N0 (2 + 4 * de j k)) ≠ 0 then mv j k else 0) (np j) else 0) nj) else (isum (fun j => if mCnt N0 j f t then isum (fun k => if mCls (N0 (2 + 4 * cr j k)) (N0 (2 + 4 * de j k)) = so ∧ (N0 (2 + 4 * de j k)) = 0 then mv j k else 0) (np j) else 0) nj) - (isum (fun j => if mCnt N0 j f t then isum (fun k => if mCls (N0 (2 + 4 * cr j k)) (N0 (2 + 4 * de j k)) = so ∧ (N0 (2 + 4 * de j k)) ≠ 0 then mv j k else 0) (np j) else 0) nj))) ∧ ∃ (gs ps : Nat) (X : Nat → Nat → Int32), x = cG w a th Z sn gs ps X ∧ sameX X0 X)) 0 0 145 [(0, .ref (a 0)), (1, .int so), (2, .int f), (3, .int t), (4, .int wh), (5, .int (z0 + isum (fun k => if mCls (N0 (2 + 4 * cr j k)) (N0 (2 + 4 * de j k)) = so ∧ (N0 (2 + 4 * de j k)) = 0 then mv j k else 0) (np j))), (6, .int (z1 + isum (fun k => if mCls (N0 (2 + 4 * cr j k)) (N0 (2 + 4 * de j k)) = so ∧ (N0 (2 + 4 * de j k)) ≠ 0 then mv j k else 0) (np j))), (7, .int (nI j)), (8, .int (nI (np j)))] [] (cG w a th Z sn (ng j) (np j) X)) : ∀ (m : Nat) (k : Nat), (np j + 1 ≤ k + m) → (k ≤ np j) → V w mX8_direct (vc w 13 0 0 (fun r x => r = some (.int (if wh = 0 then (isum (fun j => if mCnt N0 j f t then isum (fun k => if mCls (N0 (2 + 4 * cr j k)) (N0 (2 + 4 * de j k)) = so ∧ (N0 (2 + 4 * de j k)) = 0 then mv j k else 0) (np j) else 0) nj) else if wh = 1 then (isum (fun j => if mCnt N0 j f t then isum (fun k => if mCls (N0 (2 + 4 * cr j k)) (N0 (2 + 4 * de j k)) = so ∧ (N0 (2 + 4 * de j k)) ≠ 0 then mv j k else 0) (np j) else 0) nj) else (isum (fun j => if mCnt N0 j f t then isum (fun k => if mCls (N0 (2 + 4 * cr j k)) (N0 (2 + 4 * de j k)) = so ∧ (N0 (2 + 4 * de j k)) = 0 then mv j k else 0) (np j) else 0) nj) - (isum (fun j => if mCnt N0 j f t then isum (fun k => if mCls (N0 (2 + 4 * cr j k)) (N0 (2 + 4 * de j k)) = so ∧ (N0 (2 + 4 * de j k)) ≠ 0 then mv j k else 0) (np j) else 0) nj))) ∧ ∃ (gs ps : Nat) (X : Nat → Nat → Int32), x = cG w a th Z sn gs ps X ∧ sameX X0 X)) 0 0 76 [(0, .ref (a 0)), (1, .int so), (2, .int f), (3, .int t), (4, .int wh), (5, .int (z0 + isum (fun k => if mCls (N0 (2 + 4 * cr j k)) (N0 (2 + 4 * de j k)) = so ∧ (N0 (2 + 4 * de j k)) = 0 then mv j k else 0) k)), (6, .int (z1 + isum (fun k => if mCls (N0 (2 + 4 * cr j k)) (N0 (2 + 4 * de j k)) = so ∧ (N0 (2 + 4 * de j k)) ≠ 0 then mv j k else 0) k)), (7, .int (nI j)), (8, .int (nI k))] [] (cG w a th Z sn (ng j) (np j) X) := by
  intro m
  induction m with
  | zero =>
    intro k h1 h2
    exact absurd h1 (by omega)
  | succ m ih =>
    intro k h1 h2
    have hX11 : X 11 = N0 := hX.2.1.trans h11
    have hN : okN (X 11) na nj nl ac := by rw [hX11]; exact hN0
    have hP : okP (X 11) na nj nl np ng cr de mv gr := by rw [hX11]; exact hP0
    obtain ⟨hn0, hn1, hna, hnj, hnl, hac⟩ := id hN
    have hp6 := hP0.1
    have hpb := hP0.2.1
    obtain ⟨hpj, hgj⟩ := hp6 j hj
    refine V_iload dX8_direct_76 8 rfl ?_
    refine V_aload_n dX8_direct_78 0 rfl ?_
    refine V_get dX8_direct_79 fX8_196 0 rfl rfl ?_
    refine V_icmp_ge_n k (np j) 145 dX8_direct_82 (by decide) (by omega) (by omega) (fun zc1 => ?_) (fun zc1 => ?_)
    · obtain rfl : k = np j := by omega
      exact hnx
    · have hbk := hpb j k hj (by omega)
      refine V_aload_n dX8_direct_85 0 rfl ?_
      refine V_iload dX8_direct_86 8 rfl ?_
      refine V_selfR dX8_direct_88 lX8_221 (e_M_classOf w a th Z sn (ng j) (np j) X k (cr j k) (de j k) (by omega) (hpc k (by omega)).1 (hpc k (by omega)).2.1 (by omega) (by omega)) rfl rfl 0 rfl rfl rfl rfl ?_
      refine V_iload_n dX8_direct_91 1 rfl ?_
      refine V_icmp_eq 98 dX8_direct_92 (by decide) (fun zc2 => ?_) (fun zc2 => ?_)
      · refine V_aload_n dX8_direct_98 0 rfl ?_
        refine V_aload_n dX8_direct_99 0 rfl ?_
        refine V_get dX8_direct_100 fX8_97 0 rfl rfl ?_
        refine V_iload dX8_direct_103 8 rfl ?_
        refine V_iald dX8_direct_105 9 rfl rfl k rfl (by omega) ?_
        refine V_casti (y := nI (de j k)) (hpc k (by omega)).2.1 ?_
        refine V_selfR dX8_direct_106 lX8_203 (e_M_kindOf w a th Z sn (ng j) (np j) X (de j k) (by omega)) rfl rfl 0 rfl rfl rfl rfl ?_
        refine V_if_ne 127 dX8_direct_109 (by decide) (fun zc3 => ?_) (fun zc3 => ?_)
        · refine V_iload dX8_direct_127 6 rfl ?_
          refine V_aload_n dX8_direct_129 0 rfl ?_
          refine V_get dX8_direct_130 fX8_100 0 rfl rfl ?_
          refine V_iload dX8_direct_133 8 rfl ?_
          refine V_iald dX8_direct_135 10 rfl rfl k rfl (by omega) ?_
          refine V_casti (y := mv j k) (hpc k (by omega)).2.2 ?_
          refine V_iadd dX8_direct_136 ?_
          refine V_istore dX8_direct_137 rfl (L' := [(0, .ref (a 0)), (1, .int so), (2, .int f), (3, .int t), (4, .int wh), (5, .int (z0 + isum (fun k => if mCls (N0 (2 + 4 * cr j k)) (N0 (2 + 4 * de j k)) = so ∧ (N0 (2 + 4 * de j k)) = 0 then mv j k else 0) k)), (6, .int ((z1 + isum (fun k => if mCls (N0 (2 + 4 * cr j k)) (N0 (2 + 4 * de j k)) = so ∧ (N0 (2 + 4 * de j k)) ≠ 0 then mv j k else 0) k) + (mv j k))), (7, .int (nI j)), (8, .int (nI k))]) rfl ?_
          refine V_iinc (nI (k + 1)) dX8_direct_139 8 rfl (nI_i1 k) rfl (L' := [(0, .ref (a 0)), (1, .int so), (2, .int f), (3, .int t), (4, .int wh), (5, .int (z0 + isum (fun k => if mCls (N0 (2 + 4 * cr j k)) (N0 (2 + 4 * de j k)) = so ∧ (N0 (2 + 4 * de j k)) = 0 then mv j k else 0) k)), (6, .int ((z1 + isum (fun k => if mCls (N0 (2 + 4 * cr j k)) (N0 (2 + 4 * de j k)) = so ∧ (N0 (2 + 4 * de j k)) ≠ 0 then mv j k else 0) k) + (mv j k))), (7, .int (nI j)), (8, .int (nI (k + 1)))]) rfl ?_
          refine V_goto 76 dX8_direct_142 (by decide) ?_
          rw [show z0 + isum (fun k => if mCls (N0 (2 + 4 * cr j k)) (N0 (2 + 4 * de j k)) = so ∧ (N0 (2 + 4 * de j k)) = 0 then mv j k else 0) k = z0 + isum (fun k => if mCls (N0 (2 + 4 * cr j k)) (N0 (2 + 4 * de j k)) = so ∧ (N0 (2 + 4 * de j k)) = 0 then mv j k else 0) (k + 1) by rw [← isum_s]; clear ih hN hP hnl hac hnx hP0 hN0 hpc; subst hX11; grind [Int32.add_zero, Int32.or_zero]]
          rw [show (z1 + isum (fun k => if mCls (N0 (2 + 4 * cr j k)) (N0 (2 + 4 * de j k)) = so ∧ (N0 (2 + 4 * de j k)) ≠ 0 then mv j k else 0) k) + (mv j k) = z1 + isum (fun k => if mCls (N0 (2 + 4 * cr j k)) (N0 (2 + 4 * de j k)) = so ∧ (N0 (2 + 4 * de j k)) ≠ 0 then mv j k else 0) (k + 1) by rw [← isum_s]; clear ih hN hP hnl hac hnx hP0 hN0 hpc; subst hX11; grind [Int32.add_zero, Int32.or_zero]]
          exact ih (k + 1) (by omega) (by omega)
        · refine V_iload dX8_direct_112 5 rfl ?_
          refine V_aload_n dX8_direct_114 0 rfl ?_
          refine V_get dX8_direct_115 fX8_100 0 rfl rfl ?_
          refine V_iload dX8_direct_118 8 rfl ?_
          refine V_iald dX8_direct_120 10 rfl rfl k rfl (by omega) ?_
          refine V_casti (y := mv j k) (hpc k (by omega)).2.2 ?_
          refine V_iadd dX8_direct_121 ?_
          refine V_istore dX8_direct_122 rfl (L' := [(0, .ref (a 0)), (1, .int so), (2, .int f), (3, .int t), (4, .int wh), (5, .int ((z0 + isum (fun k => if mCls (N0 (2 + 4 * cr j k)) (N0 (2 + 4 * de j k)) = so ∧ (N0 (2 + 4 * de j k)) = 0 then mv j k else 0) k) + (mv j k))), (6, .int (z1 + isum (fun k => if mCls (N0 (2 + 4 * cr j k)) (N0 (2 + 4 * de j k)) = so ∧ (N0 (2 + 4 * de j k)) ≠ 0 then mv j k else 0) k)), (7, .int (nI j)), (8, .int (nI k))]) rfl ?_
          refine V_goto 139 dX8_direct_124 (by decide) ?_
          refine V_iinc (nI (k + 1)) dX8_direct_139 8 rfl (nI_i1 k) rfl (L' := [(0, .ref (a 0)), (1, .int so), (2, .int f), (3, .int t), (4, .int wh), (5, .int ((z0 + isum (fun k => if mCls (N0 (2 + 4 * cr j k)) (N0 (2 + 4 * de j k)) = so ∧ (N0 (2 + 4 * de j k)) = 0 then mv j k else 0) k) + (mv j k))), (6, .int (z1 + isum (fun k => if mCls (N0 (2 + 4 * cr j k)) (N0 (2 + 4 * de j k)) = so ∧ (N0 (2 + 4 * de j k)) ≠ 0 then mv j k else 0) k)), (7, .int (nI j)), (8, .int (nI (k + 1)))]) rfl ?_
          refine V_goto 76 dX8_direct_142 (by decide) ?_
          rw [show (z0 + isum (fun k => if mCls (N0 (2 + 4 * cr j k)) (N0 (2 + 4 * de j k)) = so ∧ (N0 (2 + 4 * de j k)) = 0 then mv j k else 0) k) + (mv j k) = z0 + isum (fun k => if mCls (N0 (2 + 4 * cr j k)) (N0 (2 + 4 * de j k)) = so ∧ (N0 (2 + 4 * de j k)) = 0 then mv j k else 0) (k + 1) by rw [← isum_s]; clear ih hN hP hnl hac hnx hP0 hN0 hpc; subst hX11; grind [Int32.add_zero, Int32.or_zero]]
          rw [show z1 + isum (fun k => if mCls (N0 (2 + 4 * cr j k)) (N0 (2 + 4 * de j k)) = so ∧ (N0 (2 + 4 * de j k)) ≠ 0 then mv j k else 0) k = z1 + isum (fun k => if mCls (N0 (2 + 4 * cr j k)) (N0 (2 + 4 * de j k)) = so ∧ (N0 (2 + 4 * de j k)) ≠ 0 then mv j k else 0) (k + 1) by rw [← isum_s]; clear ih hN hP hnl hac hnx hP0 hN0 hpc; subst hX11; grind [Int32.add_zero, Int32.or_zero]]
          exact ih (k + 1) (by omega) (by omega)
      · refine V_goto 139 dX8_direct_95 (by decide) ?_
        refine V_iinc (nI (k + 1)) dX8_direct_139 8 rfl (nI_i1 k) rfl (L' := [(0, .ref (a 0)), (1, .int so), (2, .int f), (3, .int t), (4, .int wh), (5, .int (z0 + isum (fun k => if mCls (N0 (2 + 4 * cr j k)) (N0 (2 + 4 * de j k)) = so ∧ (N0 (2 + 4 * de j k)) = 0 then mv j k else 0) k)), (6, .int (z1 + isum (fun k => if mCls (N0 (2 + 4 * cr j k)) (N0 (2 + 4 * de j k)) = so ∧ (N0 (2 + 4 * de j k)) ≠ 0 then mv j k else 0) k)), (7, .int (nI j)), (8, .int (nI (k + 1)))]) rfl ?_
        refine V_goto 76 dX8_direct_142 (by decide) ?_
        rw [show z0 + isum (fun k => if mCls (N0 (2 + 4 * cr j k)) (N0 (2 + 4 * de j k)) = so ∧ (N0 (2 + 4 * de j k)) = 0 then mv j k else 0) k = z0 + isum (fun k => if mCls (N0 (2 + 4 * cr j k)) (N0 (2 + 4 * de j k)) = so ∧ (N0 (2 + 4 * de j k)) = 0 then mv j k else 0) (k + 1) by rw [← isum_s]; clear ih hN hP hnl hac hnx hP0 hN0 hpc; subst hX11; grind [Int32.add_zero, Int32.or_zero]]
        rw [show z1 + isum (fun k => if mCls (N0 (2 + 4 * cr j k)) (N0 (2 + 4 * de j k)) = so ∧ (N0 (2 + 4 * de j k)) ≠ 0 then mv j k else 0) k = z1 + isum (fun k => if mCls (N0 (2 + 4 * cr j k)) (N0 (2 + 4 * de j k)) = so ∧ (N0 (2 + 4 * de j k)) ≠ 0 then mv j k else 0) (k + 1) by rw [← isum_s]; clear ih hN hP hnl hac hnx hP0 hN0 hpc; subst hX11; grind [Int32.add_zero, Int32.or_zero]]
        exact ih (k + 1) (by omega) (by omega)

set_option maxRecDepth 100000 in
set_option maxHeartbeats 4000000 in
theorem lp_M_direct (w : vWd) (a : Nat → Nat) (th : Int32) (Z : ZT) (sn : Nat) (X0 : Nat → Nat → Int32) (N0 : Nat → Int32) (h11 : X0 11 = N0) (so : Int32) (f : Int32) (t : Int32) (wh : Int32) (na nj : Nat) (nl : Nat → Nat) (ac : Nat → Nat → Nat) (hN0 : okN N0 na nj nl ac) (np ng : Nat → Nat) (cr de : Nat → Nat → Nat) (mv gr : Nat → Nat → Int32) (hP0 : okP N0 na nj nl np ng cr de mv gr) : ∀ (m : Nat) (j gs ps : Nat) (X : Nat → Nat → Int32), (nj + 1 ≤ j + m) → (j ≤ nj) → (sameX X0 X) → V w mX8_direct (vc w 13 0 0 (fun r x => r = some (.int (if wh = 0 then (isum (fun j => if mCnt N0 j f t then isum (fun k => if mCls (N0 (2 + 4 * cr j k)) (N0 (2 + 4 * de j k)) = so ∧ (N0 (2 + 4 * de j k)) = 0 then mv j k else 0) (np j) else 0) nj) else if wh = 1 then (isum (fun j => if mCnt N0 j f t then isum (fun k => if mCls (N0 (2 + 4 * cr j k)) (N0 (2 + 4 * de j k)) = so ∧ (N0 (2 + 4 * de j k)) ≠ 0 then mv j k else 0) (np j) else 0) nj) else (isum (fun j => if mCnt N0 j f t then isum (fun k => if mCls (N0 (2 + 4 * cr j k)) (N0 (2 + 4 * de j k)) = so ∧ (N0 (2 + 4 * de j k)) = 0 then mv j k else 0) (np j) else 0) nj) - (isum (fun j => if mCnt N0 j f t then isum (fun k => if mCls (N0 (2 + 4 * cr j k)) (N0 (2 + 4 * de j k)) = so ∧ (N0 (2 + 4 * de j k)) ≠ 0 then mv j k else 0) (np j) else 0) nj))) ∧ ∃ (gs ps : Nat) (X : Nat → Nat → Int32), x = cG w a th Z sn gs ps X ∧ sameX X0 X)) 0 0 42 [(0, .ref (a 0)), (1, .int so), (2, .int f), (3, .int t), (4, .int wh), (5, .int (isum (fun j => if mCnt N0 j f t then isum (fun k => if mCls (N0 (2 + 4 * cr j k)) (N0 (2 + 4 * de j k)) = so ∧ (N0 (2 + 4 * de j k)) = 0 then mv j k else 0) (np j) else 0) j)), (6, .int (isum (fun j => if mCnt N0 j f t then isum (fun k => if mCls (N0 (2 + 4 * cr j k)) (N0 (2 + 4 * de j k)) = so ∧ (N0 (2 + 4 * de j k)) ≠ 0 then mv j k else 0) (np j) else 0) j)), (7, .int (nI j))] [] (cG w a th Z sn gs ps X) := by
  intro m
  induction m with
  | zero =>
    intro j gs ps X h1 h2 hX
    exact absurd h1 (by omega)
  | succ m ih =>
    intro j gs ps X h1 h2 hX
    have hX11 : X 11 = N0 := hX.2.1.trans h11
    have hN : okN (X 11) na nj nl ac := by rw [hX11]; exact hN0
    have hP : okP (X 11) na nj nl np ng cr de mv gr := by rw [hX11]; exact hP0
    obtain ⟨hn0, hn1, hna, hnj, hnl, hac⟩ := id hN
    have hp6 := hP0.1
    have hpb := hP0.2.1
    refine V_iload dX8_direct_42 7 rfl ?_
    refine V_aload_n dX8_direct_44 0 rfl ?_
    refine V_get dX8_direct_45 fX8_76 0 rfl rfl ?_
    refine V_iconst 1 dX8_direct_48 (by decide) ?_
    refine V_iald dX8_direct_49 2 rfl rfl 1 rfl (by omega) ?_
    refine V_casti (y := nI nj) hn1 ?_
    refine V_icmp_ge_n j nj 151 dX8_direct_50 (by decide) (by omega) (by omega) (fun zc1 => ?_) (fun zc1 => ?_)
    · refine V_iload dX8_direct_151 4 rfl ?_
      refine V_if_ne 161 dX8_direct_153 (by decide) (fun zc2 => ?_) (fun zc2 => ?_)
      · refine V_iload dX8_direct_161 4 rfl ?_
        refine V_iconst 1 dX8_direct_163 (by decide) ?_
        refine V_icmp_ne 172 dX8_direct_164 (by decide) (fun zc3 => ?_) (fun zc3 => ?_)
        · refine V_iload dX8_direct_172 5 rfl ?_
          refine V_iload dX8_direct_174 6 rfl ?_
          refine V_isub dX8_direct_176 ?_
          refine V_iret dX8_direct_177 rfl (nb rfl) (nb rfl) ?_
          obtain rfl : j = nj := by omega
          exact ⟨(by clear ih hN hP hnl hac hP0 hN0; grind), gs, ps, X, rfl, hX⟩
        · refine V_iload dX8_direct_167 6 rfl ?_
          refine V_goto 177 dX8_direct_169 (by decide) ?_
          refine V_iret dX8_direct_177 rfl (nb rfl) (nb rfl) ?_
          obtain rfl : j = nj := by omega
          exact ⟨(by clear ih hN hP hnl hac hP0 hN0; grind), gs, ps, X, rfl, hX⟩
      · refine V_iload dX8_direct_156 5 rfl ?_
        refine V_goto 177 dX8_direct_158 (by decide) ?_
        refine V_iret dX8_direct_177 rfl (nb rfl) (nb rfl) ?_
        obtain rfl : j = nj := by omega
        exact ⟨(by clear ih hN hP hnl hac hP0 hN0; grind), gs, ps, X, rfl, hX⟩
    · refine V_aload_n dX8_direct_53 0 rfl ?_
      refine V_iload dX8_direct_54 7 rfl ?_
      refine V_iload_n dX8_direct_56 2 rfl ?_
      refine V_iload_n dX8_direct_57 3 rfl ?_
      refine V_selfR dX8_direct_58 lX8_176 (e_M_counts w a th Z sn gs ps X j f t (by omega)) rfl rfl 0 rfl rfl rfl rfl ?_
      refine V_ifne_b 67 dX8_direct_61 (by decide) (fun zc4 => ?_) (fun zc4 => ?_)
      · have hcc : mCnt N0 j f t = true := by rw [← hX11]; exact zc4
        refine V_aload_n dX8_direct_67 0 rfl ?_
        refine V_iload dX8_direct_68 7 rfl ?_
        refine V_selfQ dX8_direct_70 lX8_218 (e_M_lp w a th Z sn gs ps X j na nj nl ac hN (by omega) np ng cr de mv gr hP) rfl rfl 0 rfl rfl rfl rfl ?_
        rintro r9 x9 ⟨rfl, Y1, rfl, hs1, hpc1, hgr1⟩
        refine V_iconst 0 dX8_direct_73 (by decide) ?_
        refine V_istore dX8_direct_74 rfl (L' := [(0, .ref (a 0)), (1, .int so), (2, .int f), (3, .int t), (4, .int wh), (5, .int (isum (fun j => if mCnt N0 j f t then isum (fun k => if mCls (N0 (2 + 4 * cr j k)) (N0 (2 + 4 * de j k)) = so ∧ (N0 (2 + 4 * de j k)) = 0 then mv j k else 0) (np j) else 0) j)), (6, .int (isum (fun j => if mCnt N0 j f t then isum (fun k => if mCls (N0 (2 + 4 * cr j k)) (N0 (2 + 4 * de j k)) = so ∧ (N0 (2 + 4 * de j k)) ≠ 0 then mv j k else 0) (np j) else 0) j)), (7, .int (nI j)), (8, .int 0)]) rfl ?_
        refine V_L ?_ (lpi_M_direct w a th Z sn X0 N0 h11 so f t wh na nj nl ac hN0 np ng cr de mv gr hP0 j (by omega) (isum (fun j => if mCnt N0 j f t then isum (fun k => if mCls (N0 (2 + 4 * cr j k)) (N0 (2 + 4 * de j k)) = so ∧ (N0 (2 + 4 * de j k)) = 0 then mv j k else 0) (np j) else 0) j) (isum (fun j => if mCnt N0 j f t then isum (fun k => if mCls (N0 (2 + 4 * cr j k)) (N0 (2 + 4 * de j k)) = so ∧ (N0 (2 + 4 * de j k)) ≠ 0 then mv j k else 0) (np j) else 0) j) Y1 (hX.tr hs1) hpc1 ?_ (np j + 1) 0 (by omega) (by omega))
        · rw [← isum_0, ← isum_0]; rfl
        · refine V_iinc (nI (j + 1)) dX8_direct_145 7 rfl (nI_i1 j) rfl (L' := [(0, .ref (a 0)), (1, .int so), (2, .int f), (3, .int t), (4, .int wh), (5, .int (isum (fun j => if mCnt N0 j f t then isum (fun k => if mCls (N0 (2 + 4 * cr j k)) (N0 (2 + 4 * de j k)) = so ∧ (N0 (2 + 4 * de j k)) = 0 then mv j k else 0) (np j) else 0) j + isum (fun k => if mCls (N0 (2 + 4 * cr j k)) (N0 (2 + 4 * de j k)) = so ∧ (N0 (2 + 4 * de j k)) = 0 then mv j k else 0) (np j))), (6, .int (isum (fun j => if mCnt N0 j f t then isum (fun k => if mCls (N0 (2 + 4 * cr j k)) (N0 (2 + 4 * de j k)) = so ∧ (N0 (2 + 4 * de j k)) ≠ 0 then mv j k else 0) (np j) else 0) j + isum (fun k => if mCls (N0 (2 + 4 * cr j k)) (N0 (2 + 4 * de j k)) = so ∧ (N0 (2 + 4 * de j k)) ≠ 0 then mv j k else 0) (np j))), (7, .int (nI (j + 1))), (8, .int (nI (np j)))]) rfl ?_
          refine V_goto 42 dX8_direct_148 (by decide) ?_
          refine V_dropL (L' := [(0, .ref (a 0)), (1, .int so), (2, .int f), (3, .int t), (4, .int wh), (5, .int (isum (fun j => if mCnt N0 j f t then isum (fun k => if mCls (N0 (2 + 4 * cr j k)) (N0 (2 + 4 * de j k)) = so ∧ (N0 (2 + 4 * de j k)) = 0 then mv j k else 0) (np j) else 0) j + isum (fun k => if mCls (N0 (2 + 4 * cr j k)) (N0 (2 + 4 * de j k)) = so ∧ (N0 (2 + 4 * de j k)) = 0 then mv j k else 0) (np j))), (6, .int (isum (fun j => if mCnt N0 j f t then isum (fun k => if mCls (N0 (2 + 4 * cr j k)) (N0 (2 + 4 * de j k)) = so ∧ (N0 (2 + 4 * de j k)) ≠ 0 then mv j k else 0) (np j) else 0) j + isum (fun k => if mCls (N0 (2 + 4 * cr j k)) (N0 (2 + 4 * de j k)) = so ∧ (N0 (2 + 4 * de j k)) ≠ 0 then mv j k else 0) (np j))), (7, .int (nI (j + 1)))]) (L'' := [(8, .int (nI (np j)))]) rfl ?_
          rw [show isum (fun j => if mCnt N0 j f t then isum (fun k => if mCls (N0 (2 + 4 * cr j k)) (N0 (2 + 4 * de j k)) = so ∧ (N0 (2 + 4 * de j k)) = 0 then mv j k else 0) (np j) else 0) j + isum (fun k => if mCls (N0 (2 + 4 * cr j k)) (N0 (2 + 4 * de j k)) = so ∧ (N0 (2 + 4 * de j k)) = 0 then mv j k else 0) (np j) = isum (fun j => if mCnt N0 j f t then isum (fun k => if mCls (N0 (2 + 4 * cr j k)) (N0 (2 + 4 * de j k)) = so ∧ (N0 (2 + 4 * de j k)) = 0 then mv j k else 0) (np j) else 0) (j + 1) by rw [isum, if_pos hcc]]
          rw [show isum (fun j => if mCnt N0 j f t then isum (fun k => if mCls (N0 (2 + 4 * cr j k)) (N0 (2 + 4 * de j k)) = so ∧ (N0 (2 + 4 * de j k)) ≠ 0 then mv j k else 0) (np j) else 0) j + isum (fun k => if mCls (N0 (2 + 4 * cr j k)) (N0 (2 + 4 * de j k)) = so ∧ (N0 (2 + 4 * de j k)) ≠ 0 then mv j k else 0) (np j) = isum (fun j => if mCnt N0 j f t then isum (fun k => if mCls (N0 (2 + 4 * cr j k)) (N0 (2 + 4 * de j k)) = so ∧ (N0 (2 + 4 * de j k)) ≠ 0 then mv j k else 0) (np j) else 0) (j + 1) by rw [isum, if_pos hcc]]
          exact ih (j + 1) (ng j) (np j) Y1 (by omega) (by omega) (hX.tr hs1)
      · have hcc : ¬ mCnt N0 j f t = true := by rw [← hX11, zc4]; decide
        refine V_goto 145 dX8_direct_64 (by decide) ?_
        refine V_iinc (nI (j + 1)) dX8_direct_145 7 rfl (nI_i1 j) rfl (L' := [(0, .ref (a 0)), (1, .int so), (2, .int f), (3, .int t), (4, .int wh), (5, .int (isum (fun j => if mCnt N0 j f t then isum (fun k => if mCls (N0 (2 + 4 * cr j k)) (N0 (2 + 4 * de j k)) = so ∧ (N0 (2 + 4 * de j k)) = 0 then mv j k else 0) (np j) else 0) j)), (6, .int (isum (fun j => if mCnt N0 j f t then isum (fun k => if mCls (N0 (2 + 4 * cr j k)) (N0 (2 + 4 * de j k)) = so ∧ (N0 (2 + 4 * de j k)) ≠ 0 then mv j k else 0) (np j) else 0) j)), (7, .int (nI (j + 1)))]) rfl ?_
        refine V_goto 42 dX8_direct_148 (by decide) ?_
        rw [show isum (fun j => if mCnt N0 j f t then isum (fun k => if mCls (N0 (2 + 4 * cr j k)) (N0 (2 + 4 * de j k)) = so ∧ (N0 (2 + 4 * de j k)) = 0 then mv j k else 0) (np j) else 0) j = isum (fun j => if mCnt N0 j f t then isum (fun k => if mCls (N0 (2 + 4 * cr j k)) (N0 (2 + 4 * de j k)) = so ∧ (N0 (2 + 4 * de j k)) = 0 then mv j k else 0) (np j) else 0) (j + 1) by rw [isum, if_neg hcc]; rw [Int32.add_zero]]
        rw [show isum (fun j => if mCnt N0 j f t then isum (fun k => if mCls (N0 (2 + 4 * cr j k)) (N0 (2 + 4 * de j k)) = so ∧ (N0 (2 + 4 * de j k)) ≠ 0 then mv j k else 0) (np j) else 0) j = isum (fun j => if mCnt N0 j f t then isum (fun k => if mCls (N0 (2 + 4 * cr j k)) (N0 (2 + 4 * de j k)) = so ∧ (N0 (2 + 4 * de j k)) ≠ 0 then mv j k else 0) (np j) else 0) (j + 1) by rw [isum, if_neg hcc]; rw [Int32.add_zero]]
        exact ih (j + 1) gs ps X (by omega) (by omega) hX
