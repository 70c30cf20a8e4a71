/-! 18: the reference lays a journal's pieces -/
def pM (f l am : Nat → Int32) (g : Nat) (db : Bool) (k : Nat) : Bool := decide (f k = nI g) && decide (0 < l k) && (decide (0 < am k) == db)
def cn (l : Nat → Int32) : Nat → Nat
  | 0 => 0
  | k + 1 => cn l k + (if l k = 0 then 0 else 1)
theorem cn_out {l : Nat → Int32} {k : Nat} {x : Int32} : ∀ {n : Nat}, n ≤ k → cn (upd l k x) n = cn l n
  | 0, _ => rfl
  | n + 1, h => by rw [cn, cn, cn_out (by omega), upd_n (by omega)]
theorem cn_le {l : Nat → Int32} {k : Nat} {x : Int32} (hl : l k ≠ 0) : ∀ {n : Nat}, k < n → cn (upd l k x) n ≤ cn l n
  | 0, h => by omega
  | n + 1, h => by
    by_cases e : k = n
    · subst e; rw [cn, cn, cn_out (by omega), upd_s, if_neg hl]; split <;> omega
    · rw [cn, cn, upd_n (Ne.symm e)]; have := cn_le (x := x) hl (n := n) (by omega); omega
theorem cn_0 {l : Nat → Int32} {k : Nat} (hl : l k ≠ 0) : ∀ {n : Nat}, k < n → cn (upd l k 0) n + 1 = cn l n
  | 0, h => by omega
  | n + 1, h => by
    by_cases e : k = n
    · subst e; rw [cn, cn, cn_out (by omega), upd_s, if_neg hl, if_pos rfl]
    · rw [cn, cn, upd_n (Ne.symm e)]; have := cn_0 hl (n := n) (by omega); omega
theorem cn_1 {l : Nat → Int32} {k : Nat} (hl : l k ≠ 0) {n : Nat} (h : k < n) : 1 ≤ cn l n := by have := cn_0 hl h; omega
theorem cn_2 {l : Nat → Int32} {a b : Nat} (hab : a ≠ b) (ha : l a ≠ 0) (hb : l b ≠ 0) {n : Nat} (h1 : a < n) (h2 : b < n) : 2 ≤ cn l n := by
  have h3 := cn_0 ha h1
  have h4 := cn_1 (l := upd l a 0) (k := b) (by rw [upd_n (Ne.symm hab)]; exact hb) h2
  omega
/-- what is left, how many pieces, who gives, who takes, how much -/
abbrev MS : Type := (Nat → Int32) × Nat × (Nat → Int32) × (Nat → Int32) × (Nat → Int32)
def mnl (x y : Int32) : Int32 := if x < y then x else y
def gmS (ln : Nat → Int32) (c d : Nat) (S : MS) : MS := (upd (upd S.1 c (S.1 c - mnl (S.1 c) (S.1 d))) d (upd S.1 c (S.1 c - mnl (S.1 c) (S.1 d)) d - mnl (S.1 c) (S.1 d)), S.2.1 + 1, upd S.2.2.1 S.2.1 (ln c), upd S.2.2.2.1 S.2.1 (ln d), upd S.2.2.2.2 S.2.1 (mnl (S.1 c) (S.1 d)))
def gm (f am ln : Nat → Int32) (n g : Nat) : Nat → MS → MS
  | 0, S => S
  | m + 1, S => match ff (pM f S.1 am g false) n 0, ff (pM f S.1 am g true) n 0 with
    | some c, some d => gm f am ln n g m (gmS ln c d S)
    | _, _ => S
def gms (f am ln : Nat → Int32) (n : Nat) : Nat → MS → MS
  | 0, S => S
  | g + 1, S => gm f am ln n g 7 (gms f am ln n g S)
theorem mnl_cn {l : Nat → Int32} {c d : Nat} (hcd : c ≠ d) (hc : l c ≠ 0) (hd : l d ≠ 0) {n : Nat} (h1 : c < n) (h2 : d < n) : cn (upd (upd l c (l c - mnl (l c) (l d))) d (upd l c (l c - mnl (l c) (l d)) d - mnl (l c) (l d))) n + 1 ≤ cn l n := by
  unfold mnl
  by_cases h : l c < l d
  · rw [if_pos h, Int32.sub_self]
    have h3 := cn_0 hc h1
    have h4 := cn_le (l := upd l c 0) (k := d) (x := upd l c 0 d - l c) (by rw [upd_n (Ne.symm hcd)]; exact hd) h2
    omega
  · rw [if_neg h, upd_n (Ne.symm hcd), Int32.sub_self]
    have h3 := cn_0 (l := upd l c (l c - l d)) (k := d) (by rw [upd_n (Ne.symm hcd)]; exact hd) h2
    have h4 := cn_le (x := l c - l d) hc h1
    omega
theorem pM_ne {f l am : Nat → Int32} {g c d : Nat} (hc : pM f l am g false c = true) (hd : pM f l am g true d = true) : c ≠ d ∧ l c ≠ 0 ∧ l d ≠ 0 := by
  simp only [pM, Bool.and_eq_true, decide_eq_true_eq, beq_iff_eq] at hc hd
  refine ⟨fun e => ?_, fun e => ?_, fun e => ?_⟩
  · subst e; exact of_decide_eq_false hc.2 hd.2
  · rw [e] at hc; exact absurd hc.1.2 (by decide)
  · rw [e] at hd; exact absurd hd.1.2 (by decide)
theorem gm_ok {f am ln : Nat → Int32} {n g : Nat} (hn : n ≤ 6) : ∀ {m : Nat} {S : MS}, S.2.1 + cn S.1 6 ≤ 6 → (gm f am ln n g m S).2.1 + cn (gm f am ln n g m S).1 6 ≤ 6
  | 0, S, h => h
  | m + 1, S, h => by
    unfold gm
    split
    · next c d hc hd =>
      have h1 := ff_lt hc
      have h2 := ff_lt hd
      obtain ⟨e1, e2, e3⟩ := pM_ne h1.2.2 h2.2.2
      have h3 := mnl_cn e1 e2 e3 (n := 6) (by omega) (by omega)
      have h4 : cn (gmS ln c d S).1 6 + 1 ≤ cn S.1 6 := h3
      exact gm_ok hn (by show S.2.1 + 1 + cn (gmS ln c d S).1 6 ≤ 6; omega)
    · exact h
theorem gms_ok {f am ln : Nat → Int32} {n : Nat} (hn : n ≤ 6) : ∀ {g : Nat} {S : MS}, S.2.1 + cn S.1 6 ≤ 6 → (gms f am ln n g S).2.1 + cn (gms f am ln n g S).1 6 ≤ 6
  | 0, S, h => h
  | g + 1, S, h => gm_ok hn (gms_ok hn h)
def zsF (s : Nat → Int32) : Nat → Nat → Int32
  | 0 => s
  | k + 1 => upd (zsF s k) k 0
def laF (n : Nat) (am l : Nat → Int32) : Nat → Nat → Int32
  | 0 => l
  | k + 1 => upd (laF n am l k) k (if n ≤ k then 0 else if am k < 0 then -am k else am k)
theorem cn_max (l : Nat → Int32) : ∀ n, cn l n ≤ n
  | 0 => Nat.le_refl _
  | n + 1 => by have := cn_max l n; rw [cn]; split <;> omega

set_option maxRecDepth 100000 in
set_option maxHeartbeats 4000000 in
theorem lp_M_nextLine (w : vWd) (a : Nat → Nat) (th : Int32) (Z : ZT) (sn gs ps : Nat) (X : Nat → Nat → Int32) (j : Nat) (na nj : Nat) (nl : Nat → Nat) (ac : Nat → Nat → Nat) (hN : okN (X 11) na nj nl ac) (hj : j < nj) (g : Nat) (db : Bool) : ∀ (m : Nat) (k : Nat), (k + m = nl j) → V w mX8_nextLine (vc w 2 0 0 (qE (some (.int (oN (ff (pM (X 17) (X 23) (mAm (X 11) j) g db) m k)))) (cG w a th Z sn gs ps X))) 0 0 3 [(0, .ref (a 0)), (1, .int (nI j)), (2, .int (nI g)), (3, .int (bi (db))), (4, .int (nI k))] [] (cG w a th Z sn gs ps X) := by
  intro m
  induction m with
  | zero =>
    intro k h1
    obtain ⟨hn0, hn1, hna, hnj, hnl, hac⟩ := id hN
    obtain ⟨hl1, hl2⟩ := hnl j hj
    obtain rfl : k = nl j := by omega
    refine V_iload dX8_nextLine_3 4 rfl ?_
    refine V_aload_n dX8_nextLine_5 0 rfl ?_
    refine V_iload_n dX8_nextLine_6 1 rfl ?_
    refine V_iconst 2 dX8_nextLine_7 (by decide) ?_
    refine V_selfR dX8_nextLine_8 lX8_167 (e_M_told w a th Z sn gs ps X j 2 (by omega)) rfl rfl 0 rfl rfl rfl rfl ?_
    refine V_casti (y := nI (nl j)) hl1 ?_
    refine V_icmp_ge_t 63 dX8_nextLine_11 (by decide) (Int32.le_refl _) ?_
    refine V_iconst (-1) dX8_nextLine_63 (by decide) ?_
    exact V_iret dX8_nextLine_64 rfl (nb rfl) (nb rfl) ⟨rfl, rfl⟩
  | succ m ih =>
    intro k h1
    obtain ⟨hn0, hn1, hna, hnj, hnl, hac⟩ := id hN
    obtain ⟨hl1, hl2⟩ := hnl j hj
    refine V_iload dX8_nextLine_3 4 rfl ?_
    refine V_aload_n dX8_nextLine_5 0 rfl ?_
    refine V_iload_n dX8_nextLine_6 1 rfl ?_
    refine V_iconst 2 dX8_nextLine_7 (by decide) ?_
    refine V_selfR dX8_nextLine_8 lX8_167 (e_M_told w a th Z sn gs ps X j 2 (by omega)) rfl rfl 0 rfl rfl rfl rfl ?_
    refine V_casti (y := nI (nl j)) hl1 ?_
    refine V_icmp_ge_f 63 dX8_nextLine_11 (by decide) (nI_ge (by omega) (by omega)) ?_
    refine V_aload_n dX8_nextLine_14 0 rfl ?_
    refine V_get dX8_nextLine_15 fX8_88 0 rfl rfl ?_
    refine V_iload dX8_nextLine_18 4 rfl ?_
    refine V_iald dX8_nextLine_20 6 rfl rfl k rfl (by omega) ?_
    refine V_iload_n dX8_nextLine_21 2 rfl ?_
    refine V_icmp_ne 57 dX8_nextLine_22 (by decide) (fun zc2 => ?_) (fun zc2 => ?_)
    · refine V_iinc (nI (k + 1)) dX8_nextLine_57 4 rfl (nI_i1 k) rfl (L' := [(0, .ref (a 0)), (1, .int (nI j)), (2, .int (nI g)), (3, .int (bi (db))), (4, .int (nI (k + 1)))]) rfl ?_
      refine V_goto 3 dX8_nextLine_60 (by decide) ?_
      rw [show ff (pM (X 17) (X 23) (mAm (X 11) j) g db) (m + 1) k = ff (pM (X 17) (X 23) (mAm (X 11) j) g db) m (k + 1) by rw [ff, if_neg (by clear ih hN hnl hac; grind [pM])]]
      exact ih (k + 1) (by omega)
    · refine V_aload_n dX8_nextLine_25 0 rfl ?_
      refine V_get dX8_nextLine_26 fX8_103 0 rfl rfl ?_
      refine V_iload dX8_nextLine_29 4 rfl ?_
      refine V_iald dX8_nextLine_31 11 rfl rfl k rfl (by omega) ?_
      refine V_if_le 57 dX8_nextLine_32 (by decide) (fun zc3 => ?_) (fun zc3 => ?_)
      · refine V_iinc (nI (k + 1)) dX8_nextLine_57 4 rfl (nI_i1 k) rfl (L' := [(0, .ref (a 0)), (1, .int (nI j)), (2, .int (nI g)), (3, .int (bi (db))), (4, .int (nI (k + 1)))]) rfl ?_
        refine V_goto 3 dX8_nextLine_60 (by decide) ?_
        rw [show ff (pM (X 17) (X 23) (mAm (X 11) j) g db) (m + 1) k = ff (pM (X 17) (X 23) (mAm (X 11) j) g db) m (k + 1) by rw [ff, if_neg (by clear ih hN hnl hac; grind [pM])]]
        exact ih (k + 1) (by omega)
      · refine V_aload_n dX8_nextLine_35 0 rfl ?_
        refine V_iload_n dX8_nextLine_36 1 rfl ?_
        refine V_iload dX8_nextLine_37 4 rfl ?_
        refine V_selfR dX8_nextLine_39 lX8_173 (e_M_amountOf w a th Z sn gs ps X j k (by omega)) rfl rfl 0 rfl rfl rfl rfl ?_
        refine V_if_le 49 dX8_nextLine_42 (by decide) (fun zc4 => ?_) (fun zc4 => ?_)
        · refine V_iconst 0 dX8_nextLine_49 (by decide) ?_
          refine V_iload_n dX8_nextLine_50 3 rfl ?_
          refine V_icmp_ne_bb (b := false) (c := db) 57 dX8_nextLine_51 (by decide) (fun zc5 => ?_) (fun zc5 => ?_)
          · refine V_iinc (nI (k + 1)) dX8_nextLine_57 4 rfl (nI_i1 k) rfl (L' := [(0, .ref (a 0)), (1, .int (nI j)), (2, .int (nI g)), (3, .int (bi (db))), (4, .int (nI (k + 1)))]) rfl ?_
            refine V_goto 3 dX8_nextLine_60 (by decide) ?_
            rw [show ff (pM (X 17) (X 23) (mAm (X 11) j) g db) (m + 1) k = ff (pM (X 17) (X 23) (mAm (X 11) j) g db) m (k + 1) by rw [ff, if_neg (by clear ih hN hnl hac; grind [pM])]]
            exact ih (k + 1) (by omega)
          · refine V_iload dX8_nextLine_54 4 rfl ?_
            exact V_iret dX8_nextLine_56 rfl (nb rfl) (nb rfl) ⟨by rw [ff, if_pos (by clear ih hN hnl hac; grind [pM])]; rfl, rfl⟩
        · refine V_iconst 1 dX8_nextLine_45 (by decide) ?_
          refine V_goto 50 dX8_nextLine_46 (by decide) ?_
          refine V_iload_n dX8_nextLine_50 3 rfl ?_
          refine V_icmp_ne_bb (b := true) (c := db) 57 dX8_nextLine_51 (by decide) (fun zc6 => ?_) (fun zc6 => ?_)
          · refine V_iinc (nI (k + 1)) dX8_nextLine_57 4 rfl (nI_i1 k) rfl (L' := [(0, .ref (a 0)), (1, .int (nI j)), (2, .int (nI g)), (3, .int (bi (db))), (4, .int (nI (k + 1)))]) rfl ?_
            refine V_goto 3 dX8_nextLine_60 (by decide) ?_
            rw [show ff (pM (X 17) (X 23) (mAm (X 11) j) g db) (m + 1) k = ff (pM (X 17) (X 23) (mAm (X 11) j) g db) m (k + 1) by rw [ff, if_neg (by clear ih hN hnl hac; grind [pM])]]
            exact ih (k + 1) (by omega)
          · refine V_iload dX8_nextLine_54 4 rfl ?_
            exact V_iret dX8_nextLine_56 rfl (nb rfl) (nb rfl) ⟨by rw [ff, if_pos (by clear ih hN hnl hac; grind [pM])]; rfl, rfl⟩

set_option maxRecDepth 100000 in
set_option maxHeartbeats 4000000 in
theorem e_M_nextLine (w : vWd) (a : Nat → Nat) (th : Int32) (Z : ZT) (sn gs ps : Nat) (X : Nat → Nat → Int32) (j : Nat) (na nj : Nat) (nl : Nat → Nat) (ac : Nat → Nat → Nat) (hN : okN (X 11) na nj nl ac) (hj : j < nj) (g : Nat) (db : Bool) : Ct w mX8_nextLine 2 0 0 [.ref (a 0), .int (nI j), .int (nI g), .int (bi (db))] (cG w a th Z sn gs ps X) (qE (some (.int (oN (ff (pM (X 17) (X 23) (mAm (X 11) j) g db) (nl j) 0)))) (cG w a th Z sn gs ps X)) := by
  refine Ct.of (L := [(0, .ref (a 0)), (1, .int (nI j)), (2, .int (nI g)), (3, .int (bi (db)))]) (by decide) rfl rfl ?_
  refine V_iconst 0 dX8_nextLine_0 (by decide) ?_
  refine V_istore dX8_nextLine_1 rfl (L' := [(0, .ref (a 0)), (1, .int (nI j)), (2, .int (nI g)), (3, .int (bi (db))), (4, .int 0)]) rfl ?_
  exact lp_M_nextLine w a th Z sn gs ps X j na nj nl ac hN hj g db (nl j) 0 (by omega)

/-- the reference's cells behind laysPieces: the search's rows T, the pieces' rows S -/
def cLP (w : vWd) (a : Nat → Nat) (th : Int32) (Z : ZT) (sn : Nat) (X : Nat → Nat → Int32) (T : TS) (S : MS) : va_W := cG w a th Z sn T.2.2.1 S.2.1 (uX (uX (uX (uX (uX (uX (uX X 16 T.1) 17 T.2.2.2) 18 T.2.1) 23 S.1) 20 S.2.2.1) 21 S.2.2.2.1) 22 S.2.2.2.2)
def lpT (X : Nat → Nat → Int32) (n j : Nat) : TS := tr (mAm (X 11) j) n 0 0 (X 16, zsF (X 18) 6, 0, X 17)
def lpS (X : Nat → Nat → Int32) (n j : Nat) : MS := gms (lpT X n j).2.2.2 (mAm (X 11) j) (fun k => X 11 (50 + 15 * j + (3 + 2 * k))) n (lpT X n j).2.2.1 (laF n (mAm (X 11) j) (X 23) 6, 0, X 20, X 21, X 22)

set_option maxRecDepth 100000 in
set_option maxHeartbeats 4000000 in
theorem lp_M_lp2 (w : vWd) (a : Nat → Nat) (th : Int32) (Z : ZT) (sn gs ps : Nat) (X : Nat → Nat → Int32) (j : Nat) (na nj : Nat) (nl : Nat → Nat) (ac : Nat → Nat → Nat) (hN : okN (X 11) na nj nl ac) (hj : j < nj) (g : Nat) (R : MS) (hnx : V w mX8_laysPieces (vc w 12 0 0 (qE none (cLP w a th Z sn X (lpT X (nl j) j) (lpS X (nl j) j)))) 0 0 250 [(0, .ref (a 0)), (1, .int (nI j)), (2, .int (nI g))] [] (cLP w a th Z sn X (lpT X (nl j) j) R)) : ∀ (m : Nat) (S : MS), (cn S.1 6 < m) → (S.2.1 + cn S.1 6 ≤ 6) → ((gm (lpT X (nl j) j).2.2.2 (mAm (X 11) j) (fun k => X 11 (50 + 15 * j + (3 + 2 * k))) (nl j) g m S) = R) → V w mX8_laysPieces (vc w 12 0 0 (qE none (cLP w a th Z sn X (lpT X (nl j) j) (lpS X (nl j) j)))) 0 0 110 [(0, .ref (a 0)), (1, .int (nI j)), (2, .int (nI g)), (3, .int (oN (ff (pM (lpT X (nl j) j).2.2.2 S.1 (mAm (X 11) j) g false) (nl j) 0))), (4, .int (oN (ff (pM (lpT X (nl j) j).2.2.2 S.1 (mAm (X 11) j) g true) (nl j) 0)))] [] (cLP w a th Z sn X (lpT X (nl j) j) S) := by
  intro m
  induction m with
  | zero =>
    intro S h1 hp hR
    exact absurd h1 (by omega)
  | succ m ih =>
    intro S h1 hp hR
    obtain ⟨hn0, hn1, hna, hnj, hnl, hac⟩ := id hN
    obtain ⟨hl1, hl2⟩ := hnl j hj
    cases hfc : ff (pM (lpT X (nl j) j).2.2.2 S.1 (mAm (X 11) j) g false) (nl j) 0 with
    | none =>
      refine V_L (L' := [(0, .ref (a 0)), (1, .int (nI j)), (2, .int (nI g)), (3, .int (-1)), (4, .int (oN (ff (pM (lpT X (nl j) j).2.2.2 S.1 (mAm (X 11) j) g true) (nl j) 0)))]) rfl ?_
      refine V_iload_n dX8_laysPieces_110 3 rfl ?_
      refine V_iconst (-1) dX8_laysPieces_111 (by decide) ?_
      refine V_icmp_eq_t 250 dX8_laysPieces_112 (by decide) rfl ?_
      refine V_dropL (L' := [(0, .ref (a 0)), (1, .int (nI j)), (2, .int (nI g))]) (L'' := [(3, .int (-1)), (4, .int (oN (ff (pM (lpT X (nl j) j).2.2.2 S.1 (mAm (X 11) j) g true) (nl j) 0)))]) rfl ?_
      rw [show S = R by rw [← hR, gm, hfc]]
      exact hnx
    | some c =>
      have hc := ff_lt hfc
      cases hfd : ff (pM (lpT X (nl j) j).2.2.2 S.1 (mAm (X 11) j) g true) (nl j) 0 with
      | none =>
        refine V_L (L' := [(0, .ref (a 0)), (1, .int (nI j)), (2, .int (nI g)), (3, .int (nI c)), (4, .int (-1))]) rfl ?_
        refine V_iload_n dX8_laysPieces_110 3 rfl ?_
        refine V_iconst (-1) dX8_laysPieces_111 (by decide) ?_
        refine V_icmp_eq_f 250 dX8_laysPieces_112 (by decide) (nI_ne_m1 (by omega)) ?_
        refine V_iload dX8_laysPieces_115 4 rfl ?_
        refine V_iconst (-1) dX8_laysPieces_117 (by decide) ?_
        refine V_icmp_eq_t 250 dX8_laysPieces_118 (by decide) rfl ?_
        refine V_dropL (L' := [(0, .ref (a 0)), (1, .int (nI j)), (2, .int (nI g))]) (L'' := [(3, .int (nI c)), (4, .int (-1))]) rfl ?_
        rw [show S = R by rw [← hR, gm, hfc, hfd]]
        exact hnx
      | some d =>
        have hd := ff_lt hfd
        obtain ⟨e1, e2, e3⟩ := pM_ne hc.2.2 hd.2.2
        have hcn := mnl_cn e1 e2 e3 (n := 6) (by omega) (by omega)
        have hcn2 : cn (gmS (fun k => X 11 (50 + 15 * j + (3 + 2 * k))) c d S).1 6 + 1 ≤ cn S.1 6 := hcn
        have hc2 := cn_2 e1 e2 e3 (n := 6) (by omega) (by omega)
        refine V_L (L' := [(0, .ref (a 0)), (1, .int (nI j)), (2, .int (nI g)), (3, .int (nI c)), (4, .int (nI d))]) rfl ?_
        refine V_iload_n dX8_laysPieces_110 3 rfl ?_
        refine V_iconst (-1) dX8_laysPieces_111 (by decide) ?_
        refine V_icmp_eq_f 250 dX8_laysPieces_112 (by decide) (nI_ne_m1 (by omega)) ?_
        refine V_iload dX8_laysPieces_115 4 rfl ?_
        refine V_iconst (-1) dX8_laysPieces_117 (by decide) ?_
        refine V_icmp_eq_f 250 dX8_laysPieces_118 (by decide) (nI_ne_m1 (by omega)) ?_
        refine V_aload_n dX8_laysPieces_121 0 rfl ?_
        refine V_get dX8_laysPieces_122 fX8_103 0 rfl rfl ?_
        refine V_iload_n dX8_laysPieces_125 3 rfl ?_
        refine V_iald dX8_laysPieces_126 11 rfl rfl c rfl (by first | omega | (show _ < 6; omega)) ?_
        refine V_aload_n dX8_laysPieces_127 0 rfl ?_
        refine V_get dX8_laysPieces_128 fX8_103 0 rfl rfl ?_
        refine V_iload dX8_laysPieces_131 4 rfl ?_
        refine V_iald dX8_laysPieces_133 11 rfl rfl d rfl (by first | omega | (show _ < 6; omega)) ?_
        refine V_icmp_ge 146 dX8_laysPieces_134 (by decide) (fun zc3 => ?_) (fun zc3 => ?_)
        · have hlt : S.1 d ≤ S.1 c := zc3
          refine V_aload_n dX8_laysPieces_146 0 rfl ?_
          refine V_get dX8_laysPieces_147 fX8_103 0 rfl rfl ?_
          refine V_iload dX8_laysPieces_150 4 rfl ?_
          refine V_iald dX8_laysPieces_152 11 rfl rfl d rfl (by first | omega | (show _ < 6; omega)) ?_
          refine V_casti (y := mnl (S.1 c) (S.1 d)) (by rw [mnl, if_neg (Int32.not_lt.mpr hlt)]; rfl) ?_
          refine V_istore dX8_laysPieces_153 rfl (L' := [(0, .ref (a 0)), (1, .int (nI j)), (2, .int (nI g)), (3, .int (nI c)), (4, .int (nI d)), (5, .int (mnl (S.1 c) (S.1 d)))]) rfl ?_
          refine V_aload_n dX8_laysPieces_155 0 rfl ?_
          refine V_get dX8_laysPieces_156 fX8_94 0 rfl rfl ?_
          refine V_aload_n dX8_laysPieces_159 0 rfl ?_
          refine V_get dX8_laysPieces_160 fX8_196 0 rfl rfl ?_
          refine V_aload_n dX8_laysPieces_163 0 rfl ?_
          refine V_iload_n dX8_laysPieces_164 1 rfl ?_
          refine V_iload_n dX8_laysPieces_165 3 rfl ?_
          refine V_selfR dX8_laysPieces_166 lX8_170 (e_M_lineOf w a th Z sn (lpT X (nl j) j).2.2.1 S.2.1 (uX (uX (uX (uX (uX (uX (uX X 16 (lpT X (nl j) j).1) 17 (lpT X (nl j) j).2.2.2) 18 (lpT X (nl j) j).2.1) 23 S.1) 20 S.2.2.1) 21 S.2.2.2.1) 22 S.2.2.2.2) j c (by omega)) rfl rfl 0 rfl rfl rfl rfl ?_
          refine V_iast dX8_laysPieces_169 8 rfl rfl S.2.1 rfl (by first | omega | (show _ < 6; omega)) (ws' := cLP w a th Z sn X (lpT X (nl j) j) (S.1, S.2.1, upd S.2.2.1 S.2.1 (X 11 (50 + 15 * j + (3 + 2 * c))), S.2.2.2.1, S.2.2.2.2)) rfl ?_
          refine V_aload_n dX8_laysPieces_170 0 rfl ?_
          refine V_get dX8_laysPieces_171 fX8_97 0 rfl rfl ?_
          refine V_aload_n dX8_laysPieces_174 0 rfl ?_
          refine V_get dX8_laysPieces_175 fX8_196 0 rfl rfl ?_
          refine V_aload_n dX8_laysPieces_178 0 rfl ?_
          refine V_iload_n dX8_laysPieces_179 1 rfl ?_
          refine V_iload dX8_laysPieces_180 4 rfl ?_
          refine V_selfR dX8_laysPieces_182 lX8_170 (e_M_lineOf w a th Z sn (lpT X (nl j) j).2.2.1 (S.1, S.2.1, upd S.2.2.1 S.2.1 (X 11 (50 + 15 * j + (3 + 2 * c))), S.2.2.2.1, S.2.2.2.2).2.1 (uX (uX (uX (uX (uX (uX (uX X 16 (lpT X (nl j) j).1) 17 (lpT X (nl j) j).2.2.2) 18 (lpT X (nl j) j).2.1) 23 (S.1, S.2.1, upd S.2.2.1 S.2.1 (X 11 (50 + 15 * j + (3 + 2 * c))), S.2.2.2.1, S.2.2.2.2).1) 20 (S.1, S.2.1, upd S.2.2.1 S.2.1 (X 11 (50 + 15 * j + (3 + 2 * c))), S.2.2.2.1, S.2.2.2.2).2.2.1) 21 (S.1, S.2.1, upd S.2.2.1 S.2.1 (X 11 (50 + 15 * j + (3 + 2 * c))), S.2.2.2.1, S.2.2.2.2).2.2.2.1) 22 (S.1, S.2.1, upd S.2.2.1 S.2.1 (X 11 (50 + 15 * j + (3 + 2 * c))), S.2.2.2.1, S.2.2.2.2).2.2.2.2) j d (by omega)) rfl rfl 0 rfl rfl rfl rfl ?_
          refine V_iast dX8_laysPieces_185 9 rfl rfl S.2.1 rfl (by first | omega | (show _ < 6; omega)) (ws' := cLP w a th Z sn X (lpT X (nl j) j) (S.1, S.2.1, upd S.2.2.1 S.2.1 (X 11 (50 + 15 * j + (3 + 2 * c))), upd S.2.2.2.1 S.2.1 (X 11 (50 + 15 * j + (3 + 2 * d))), S.2.2.2.2)) rfl ?_
          refine V_aload_n dX8_laysPieces_186 0 rfl ?_
          refine V_get dX8_laysPieces_187 fX8_100 0 rfl rfl ?_
          refine V_aload_n dX8_laysPieces_190 0 rfl ?_
          refine V_get dX8_laysPieces_191 fX8_196 0 rfl rfl ?_
          refine V_iload dX8_laysPieces_194 5 rfl ?_
          refine V_iast dX8_laysPieces_196 10 rfl rfl S.2.1 rfl (by first | omega | (show _ < 6; omega)) (ws' := cLP w a th Z sn X (lpT X (nl j) j) (S.1, S.2.1, upd S.2.2.1 S.2.1 (X 11 (50 + 15 * j + (3 + 2 * c))), upd S.2.2.2.1 S.2.1 (X 11 (50 + 15 * j + (3 + 2 * d))), upd S.2.2.2.2 S.2.1 (mnl (S.1 c) (S.1 d)))) rfl ?_
          refine V_aload_n dX8_laysPieces_197 0 rfl ?_
          refine V_dup dX8_laysPieces_198 rfl ?_
          refine V_get dX8_laysPieces_199 fX8_196 0 rfl rfl ?_
          refine V_iconst 1 dX8_laysPieces_202 (by decide) ?_
          refine V_iadd dX8_laysPieces_203 ?_
          refine V_casti (y := nI (S.2.1 + 1)) (nI_add S.2.1 1) ?_
          refine V_put dX8_laysPieces_204 pX8_196 0 rfl rfl rfl rfl (ws' := cLP w a th Z sn X (lpT X (nl j) j) (S.1, S.2.1 + 1, upd S.2.2.1 S.2.1 (X 11 (50 + 15 * j + (3 + 2 * c))), upd S.2.2.2.1 S.2.1 (X 11 (50 + 15 * j + (3 + 2 * d))), upd S.2.2.2.2 S.2.1 (mnl (S.1 c) (S.1 d)))) rfl ?_
          refine V_aload_n dX8_laysPieces_207 0 rfl ?_
          refine V_get dX8_laysPieces_208 fX8_103 0 rfl rfl ?_
          refine V_iload_n dX8_laysPieces_211 3 rfl ?_
          refine V_dup2 dX8_laysPieces_212 rfl rfl ?_
          refine V_iald dX8_laysPieces_213 11 rfl rfl c rfl (by first | omega | (show _ < 6; omega)) ?_
          refine V_iload dX8_laysPieces_214 5 rfl ?_
          refine V_isub dX8_laysPieces_216 ?_
          refine V_iast dX8_laysPieces_217 11 rfl rfl c rfl (by first | omega | (show _ < 6; omega)) (ws' := cLP w a th Z sn X (lpT X (nl j) j) (upd S.1 c ((S.1 c) - (mnl (S.1 c) (S.1 d))), S.2.1 + 1, upd S.2.2.1 S.2.1 (X 11 (50 + 15 * j + (3 + 2 * c))), upd S.2.2.2.1 S.2.1 (X 11 (50 + 15 * j + (3 + 2 * d))), upd S.2.2.2.2 S.2.1 (mnl (S.1 c) (S.1 d)))) rfl ?_
          refine V_aload_n dX8_laysPieces_218 0 rfl ?_
          refine V_get dX8_laysPieces_219 fX8_103 0 rfl rfl ?_
          refine V_iload dX8_laysPieces_222 4 rfl ?_
          refine V_dup2 dX8_laysPieces_224 rfl rfl ?_
          refine V_iald dX8_laysPieces_225 11 rfl rfl d rfl (by first | omega | (show _ < 6; omega)) ?_
          refine V_iload dX8_laysPieces_226 5 rfl ?_
          refine V_isub dX8_laysPieces_228 ?_
          refine V_iast dX8_laysPieces_229 11 rfl rfl d rfl (by first | omega | (show _ < 6; omega)) (ws' := cLP w a th Z sn X (lpT X (nl j) j) (upd (upd S.1 c ((S.1 c) - (mnl (S.1 c) (S.1 d)))) d (((upd S.1 c ((S.1 c) - (mnl (S.1 c) (S.1 d)))) d) - (mnl (S.1 c) (S.1 d))), S.2.1 + 1, upd S.2.2.1 S.2.1 (X 11 (50 + 15 * j + (3 + 2 * c))), upd S.2.2.2.1 S.2.1 (X 11 (50 + 15 * j + (3 + 2 * d))), upd S.2.2.2.2 S.2.1 (mnl (S.1 c) (S.1 d)))) rfl ?_
          refine V_aload_n dX8_laysPieces_230 0 rfl ?_
          refine V_iload_n dX8_laysPieces_231 1 rfl ?_
          refine V_iload_n dX8_laysPieces_232 2 rfl ?_
          refine V_iconst 0 dX8_laysPieces_233 (by decide) ?_
          refine V_selfR dX8_laysPieces_234 lX8_199 (e_M_nextLine w a th Z sn (lpT X (nl j) j).2.2.1 (gmS (fun k => X 11 (50 + 15 * j + (3 + 2 * k))) c d S).2.1 (uX (uX (uX (uX (uX (uX (uX X 16 (lpT X (nl j) j).1) 17 (lpT X (nl j) j).2.2.2) 18 (lpT X (nl j) j).2.1) 23 (gmS (fun k => X 11 (50 + 15 * j + (3 + 2 * k))) c d S).1) 20 (gmS (fun k => X 11 (50 + 15 * j + (3 + 2 * k))) c d S).2.2.1) 21 (gmS (fun k => X 11 (50 + 15 * j + (3 + 2 * k))) c d S).2.2.2.1) 22 (gmS (fun k => X 11 (50 + 15 * j + (3 + 2 * k))) c d S).2.2.2.2) j na nj nl ac hN hj g false) rfl rfl 0 rfl rfl rfl rfl ?_
          refine V_istore_n dX8_laysPieces_237 rfl (L' := [(0, .ref (a 0)), (1, .int (nI j)), (2, .int (nI g)), (3, .int (oN (ff (pM (lpT X (nl j) j).2.2.2 (gmS (fun k => X 11 (50 + 15 * j + (3 + 2 * k))) c d S).1 (mAm (X 11) j) g false) (nl j) 0))), (4, .int (nI d)), (5, .int (mnl (S.1 c) (S.1 d)))]) rfl ?_
          refine V_aload_n dX8_laysPieces_238 0 rfl ?_
          refine V_iload_n dX8_laysPieces_239 1 rfl ?_
          refine V_iload_n dX8_laysPieces_240 2 rfl ?_
          refine V_iconst 1 dX8_laysPieces_241 (by decide) ?_
          refine V_selfR dX8_laysPieces_242 lX8_199 (e_M_nextLine w a th Z sn (lpT X (nl j) j).2.2.1 (gmS (fun k => X 11 (50 + 15 * j + (3 + 2 * k))) c d S).2.1 (uX (uX (uX (uX (uX (uX (uX X 16 (lpT X (nl j) j).1) 17 (lpT X (nl j) j).2.2.2) 18 (lpT X (nl j) j).2.1) 23 (gmS (fun k => X 11 (50 + 15 * j + (3 + 2 * k))) c d S).1) 20 (gmS (fun k => X 11 (50 + 15 * j + (3 + 2 * k))) c d S).2.2.1) 21 (gmS (fun k => X 11 (50 + 15 * j + (3 + 2 * k))) c d S).2.2.2.1) 22 (gmS (fun k => X 11 (50 + 15 * j + (3 + 2 * k))) c d S).2.2.2.2) j na nj nl ac hN hj g true) rfl rfl 0 rfl rfl rfl rfl ?_
          refine V_istore dX8_laysPieces_245 rfl (L' := [(0, .ref (a 0)), (1, .int (nI j)), (2, .int (nI g)), (3, .int (oN (ff (pM (lpT X (nl j) j).2.2.2 (gmS (fun k => X 11 (50 + 15 * j + (3 + 2 * k))) c d S).1 (mAm (X 11) j) g false) (nl j) 0))), (4, .int (oN (ff (pM (lpT X (nl j) j).2.2.2 (gmS (fun k => X 11 (50 + 15 * j + (3 + 2 * k))) c d S).1 (mAm (X 11) j) g true) (nl j) 0))), (5, .int (mnl (S.1 c) (S.1 d)))]) rfl ?_
          refine V_goto 110 dX8_laysPieces_247 (by decide) ?_
          refine V_dropL (L' := [(0, .ref (a 0)), (1, .int (nI j)), (2, .int (nI g)), (3, .int (oN (ff (pM (lpT X (nl j) j).2.2.2 (gmS (fun k => X 11 (50 + 15 * j + (3 + 2 * k))) c d S).1 (mAm (X 11) j) g false) (nl j) 0))), (4, .int (oN (ff (pM (lpT X (nl j) j).2.2.2 (gmS (fun k => X 11 (50 + 15 * j + (3 + 2 * k))) c d S).1 (mAm (X 11) j) g true) (nl j) 0)))]) (L'' := [(5, .int (mnl (S.1 c) (S.1 d)))]) rfl ?_
          exact ih (gmS (fun k => X 11 (50 + 15 * j + (3 + 2 * k))) c d S) (by omega) (by show S.2.1 + 1 + cn (gmS (fun k => X 11 (50 + 15 * j + (3 + 2 * k))) c d S).1 6 ≤ 6; omega) (by rw [← hR, gm, hfc, hfd])
        · have hlt : ¬ S.1 d ≤ S.1 c := zc3
          refine V_aload_n dX8_laysPieces_137 0 rfl ?_
          refine V_get dX8_laysPieces_138 fX8_103 0 rfl rfl ?_
          refine V_iload_n dX8_laysPieces_141 3 rfl ?_
          refine V_iald dX8_laysPieces_142 11 rfl rfl c rfl (by first | omega | (show _ < 6; omega)) ?_
          refine V_goto 153 dX8_laysPieces_143 (by decide) ?_
          refine V_casti (y := mnl (S.1 c) (S.1 d)) (by rw [mnl, if_pos (Int32.not_le.mp hlt)]; rfl) ?_
          refine V_istore dX8_laysPieces_153 rfl (L' := [(0, .ref (a 0)), (1, .int (nI j)), (2, .int (nI g)), (3, .int (nI c)), (4, .int (nI d)), (5, .int (mnl (S.1 c) (S.1 d)))]) rfl ?_
          refine V_aload_n dX8_laysPieces_155 0 rfl ?_
          refine V_get dX8_laysPieces_156 fX8_94 0 rfl rfl ?_
          refine V_aload_n dX8_laysPieces_159 0 rfl ?_
          refine V_get dX8_laysPieces_160 fX8_196 0 rfl rfl ?_
          refine V_aload_n dX8_laysPieces_163 0 rfl ?_
          refine V_iload_n dX8_laysPieces_164 1 rfl ?_
          refine V_iload_n dX8_laysPieces_165 3 rfl ?_
          refine V_selfR dX8_laysPieces_166 lX8_170 (e_M_lineOf w a th Z sn (lpT X (nl j) j).2.2.1 S.2.1 (uX (uX (uX (uX (uX (uX (uX X 16 (lpT X (nl j) j).1) 17 (lpT X (nl j) j).2.2.2) 18 (lpT X (nl j) j).2.1) 23 S.1) 20 S.2.2.1) 21 S.2.2.2.1) 22 S.2.2.2.2) j c (by omega)) rfl rfl 0 rfl rfl rfl rfl ?_
          refine V_iast dX8_laysPieces_169 8 rfl rfl S.2.1 rfl (by first | omega | (show _ < 6; omega)) (ws' := cLP w a th Z sn X (lpT X (nl j) j) (S.1, S.2.1, upd S.2.2.1 S.2.1 (X 11 (50 + 15 * j + (3 + 2 * c))), S.2.2.2.1, S.2.2.2.2)) rfl ?_
          refine V_aload_n dX8_laysPieces_170 0 rfl ?_
          refine V_get dX8_laysPieces_171 fX8_97 0 rfl rfl ?_
          refine V_aload_n dX8_laysPieces_174 0 rfl ?_
          refine V_get dX8_laysPieces_175 fX8_196 0 rfl rfl ?_
          refine V_aload_n dX8_laysPieces_178 0 rfl ?_
          refine V_iload_n dX8_laysPieces_179 1 rfl ?_
          refine V_iload dX8_laysPieces_180 4 rfl ?_
          refine V_selfR dX8_laysPieces_182 lX8_170 (e_M_lineOf w a th Z sn (lpT X (nl j) j).2.2.1 (S.1, S.2.1, upd S.2.2.1 S.2.1 (X 11 (50 + 15 * j + (3 + 2 * c))), S.2.2.2.1, S.2.2.2.2).2.1 (uX (uX (uX (uX (uX (uX (uX X 16 (lpT X (nl j) j).1) 17 (lpT X (nl j) j).2.2.2) 18 (lpT X (nl j) j).2.1) 23 (S.1, S.2.1, upd S.2.2.1 S.2.1 (X 11 (50 + 15 * j + (3 + 2 * c))), S.2.2.2.1, S.2.2.2.2).1) 20 (S.1, S.2.1, upd S.2.2.1 S.2.1 (X 11 (50 + 15 * j + (3 + 2 * c))), S.2.2.2.1, S.2.2.2.2).2.2.1) 21 (S.1, S.2.1, upd S.2.2.1 S.2.1 (X 11 (50 + 15 * j + (3 + 2 * c))), S.2.2.2.1, S.2.2.2.2).2.2.2.1) 22 (S.1, S.2.1, upd S.2.2.1 S.2.1 (X 11 (50 + 15 * j + (3 + 2 * c))), S.2.2.2.1, S.2.2.2.2).2.2.2.2) j d (by omega)) rfl rfl 0 rfl rfl rfl rfl ?_
          refine V_iast dX8_laysPieces_185 9 rfl rfl S.2.1 rfl (by first | omega | (show _ < 6; omega)) (ws' := cLP w a th Z sn X (lpT X (nl j) j) (S.1, S.2.1, upd S.2.2.1 S.2.1 (X 11 (50 + 15 * j + (3 + 2 * c))), upd S.2.2.2.1 S.2.1 (X 11 (50 + 15 * j + (3 + 2 * d))), S.2.2.2.2)) rfl ?_
          refine V_aload_n dX8_laysPieces_186 0 rfl ?_
          refine V_get dX8_laysPieces_187 fX8_100 0 rfl rfl ?_
          refine V_aload_n dX8_laysPieces_190 0 rfl ?_
          refine V_get dX8_laysPieces_191 fX8_196 0 rfl rfl ?_
          refine V_iload dX8_laysPieces_194 5 rfl ?_
          refine V_iast dX8_laysPieces_196 10 rfl rfl S.2.1 rfl (by first | omega | (show _ < 6; omega)) (ws' := cLP w a th Z sn X (lpT X (nl j) j) (S.1, S.2.1, upd S.2.2.1 S.2.1 (X 11 (50 + 15 * j + (3 + 2 * c))), upd S.2.2.2.1 S.2.1 (X 11 (50 + 15 * j + (3 + 2 * d))), upd S.2.2.2.2 S.2.1 (mnl (S.1 c) (S.1 d)))) rfl ?_
          refine V_aload_n dX8_laysPieces_197 0 rfl ?_
          refine V_dup dX8_laysPieces_198 rfl ?_
          refine V_get dX8_laysPieces_199 fX8_196 0 rfl rfl ?_
          refine V_iconst 1 dX8_laysPieces_202 (by decide) ?_
          refine V_iadd dX8_laysPieces_203 ?_
          refine V_casti (y := nI (S.2.1 + 1)) (nI_add S.2.1 1) ?_
          refine V_put dX8_laysPieces_204 pX8_196 0 rfl rfl rfl rfl (ws' := cLP w a th Z sn X (lpT X (nl j) j) (S.1, S.2.1 + 1, upd S.2.2.1 S.2.1 (X 11 (50 + 15 * j + (3 + 2 * c))), upd S.2.2.2.1 S.2.1 (X 11 (50 + 15 * j + (3 + 2 * d))), upd S.2.2.2.2 S.2.1 (mnl (S.1 c) (S.1 d)))) rfl ?_
          refine V_aload_n dX8_laysPieces_207 0 rfl ?_
          refine V_get dX8_laysPieces_208 fX8_103 0 rfl rfl ?_
          refine V_iload_n dX8_laysPieces_211 3 rfl ?_
          refine V_dup2 dX8_laysPieces_212 rfl rfl ?_
          refine V_iald dX8_laysPieces_213 11 rfl rfl c rfl (by first | omega | (show _ < 6; omega)) ?_
          refine V_iload dX8_laysPieces_214 5 rfl ?_
          refine V_isub dX8_laysPieces_216 ?_
          refine V_iast dX8_laysPieces_217 11 rfl rfl c rfl (by first | omega | (show _ < 6; omega)) (ws' := cLP w a th Z sn X (lpT X (nl j) j) (upd S.1 c ((S.1 c) - (mnl (S.1 c) (S.1 d))), S.2.1 + 1, upd S.2.2.1 S.2.1 (X 11 (50 + 15 * j + (3 + 2 * c))), upd S.2.2.2.1 S.2.1 (X 11 (50 + 15 * j + (3 + 2 * d))), upd S.2.2.2.2 S.2.1 (mnl (S.1 c) (S.1 d)))) rfl ?_
          refine V_aload_n dX8_laysPieces_218 0 rfl ?_
          refine V_get dX8_laysPieces_219 fX8_103 0 rfl rfl ?_
          refine V_iload dX8_laysPieces_222 4 rfl ?_
          refine V_dup2 dX8_laysPieces_224 rfl rfl ?_
          refine V_iald dX8_laysPieces_225 11 rfl rfl d rfl (by first | omega | (show _ < 6; omega)) ?_
          refine V_iload dX8_laysPieces_226 5 rfl ?_
          refine V_isub dX8_laysPieces_228 ?_
          refine V_iast dX8_laysPieces_229 11 rfl rfl d rfl (by first | omega | (show _ < 6; omega)) (ws' := cLP w a th Z sn X (lpT X (nl j) j) (upd (upd S.1 c ((S.1 c) - (mnl (S.1 c) (S.1 d)))) d (((upd S.1 c ((S.1 c) - (mnl (S.1 c) (S.1 d)))) d) - (mnl (S.1 c) (S.1 d))), S.2.1 + 1, upd S.2.2.1 S.2.1 (X 11 (50 + 15 * j + (3 + 2 * c))), upd S.2.2.2.1 S.2.1 (X 11 (50 + 15 * j + (3 + 2 * d))), upd S.2.2.2.2 S.2.1 (mnl (S.1 c) (S.1 d)))) rfl ?_
          refine V_aload_n dX8_laysPieces_230 0 rfl ?_
          refine V_iload_n dX8_laysPieces_231 1 rfl ?_
          refine V_iload_n dX8_laysPieces_232 2 rfl ?_
          refine V_iconst 0 dX8_laysPieces_233 (by decide) ?_
          refine V_selfR dX8_laysPieces_234 lX8_199 (e_M_nextLine w a th Z sn (lpT X (nl j) j).2.2.1 (gmS (fun k => X 11 (50 + 15 * j + (3 + 2 * k))) c d S).2.1 (uX (uX (uX (uX (uX (uX (uX X 16 (lpT X (nl j) j).1) 17 (lpT X (nl j) j).2.2.2) 18 (lpT X (nl j) j).2.1) 23 (gmS (fun k => X 11 (50 + 15 * j + (3 + 2 * k))) c d S).1) 20 (gmS (fun k => X 11 (50 + 15 * j + (3 + 2 * k))) c d S).2.2.1) 21 (gmS (fun k => X 11 (50 + 15 * j + (3 + 2 * k))) c d S).2.2.2.1) 22 (gmS (fun k => X 11 (50 + 15 * j + (3 + 2 * k))) c d S).2.2.2.2) j na nj nl ac hN hj g false) rfl rfl 0 rfl rfl rfl rfl ?_
          refine V_istore_n dX8_laysPieces_237 rfl (L' := [(0, .ref (a 0)), (1, .int (nI j)), (2, .int (nI g)), (3, .int (oN (ff (pM (lpT X (nl j) j).2.2.2 (gmS (fun k => X 11 (50 + 15 * j + (3 + 2 * k))) c d S).1 (mAm (X 11) j) g false) (nl j) 0))), (4, .int (nI d)), (5, .int (mnl (S.1 c) (S.1 d)))]) rfl ?_
          refine V_aload_n dX8_laysPieces_238 0 rfl ?_
          refine V_iload_n dX8_laysPieces_239 1 rfl ?_
          refine V_iload_n dX8_laysPieces_240 2 rfl ?_
          refine V_iconst 1 dX8_laysPieces_241 (by decide) ?_
          refine V_selfR dX8_laysPieces_242 lX8_199 (e_M_nextLine w a th Z sn (lpT X (nl j) j).2.2.1 (gmS (fun k => X 11 (50 + 15 * j + (3 + 2 * k))) c d S).2.1 (uX (uX (uX (uX (uX (uX (uX X 16 (lpT X (nl j) j).1) 17 (lpT X (nl j) j).2.2.2) 18 (lpT X (nl j) j).2.1) 23 (gmS (fun k => X 11 (50 + 15 * j + (3 + 2 * k))) c d S).1) 20 (gmS (fun k => X 11 (50 + 15 * j + (3 + 2 * k))) c d S).2.2.1) 21 (gmS (fun k => X 11 (50 + 15 * j + (3 + 2 * k))) c d S).2.2.2.1) 22 (gmS (fun k => X 11 (50 + 15 * j + (3 + 2 * k))) c d S).2.2.2.2) j na nj nl ac hN hj g true) rfl rfl 0 rfl rfl rfl rfl ?_
          refine V_istore dX8_laysPieces_245 rfl (L' := [(0, .ref (a 0)), (1, .int (nI j)), (2, .int (nI g)), (3, .int (oN (ff (pM (lpT X (nl j) j).2.2.2 (gmS (fun k => X 11 (50 + 15 * j + (3 + 2 * k))) c d S).1 (mAm (X 11) j) g false) (nl j) 0))), (4, .int (oN (ff (pM (lpT X (nl j) j).2.2.2 (gmS (fun k => X 11 (50 + 15 * j + (3 + 2 * k))) c d S).1 (mAm (X 11) j) g true) (nl j) 0))), (5, .int (mnl (S.1 c) (S.1 d)))]) rfl ?_
          refine V_goto 110 dX8_laysPieces_247 (by decide) ?_
          refine V_dropL (L' := [(0, .ref (a 0)), (1, .int (nI j)), (2, .int (nI g)), (3, .int (oN (ff (pM (lpT X (nl j) j).2.2.2 (gmS (fun k => X 11 (50 + 15 * j + (3 + 2 * k))) c d S).1 (mAm (X 11) j) g false) (nl j) 0))), (4, .int (oN (ff (pM (lpT X (nl j) j).2.2.2 (gmS (fun k => X 11 (50 + 15 * j + (3 + 2 * k))) c d S).1 (mAm (X 11) j) g true) (nl j) 0)))]) (L'' := [(5, .int (mnl (S.1 c) (S.1 d)))]) rfl ?_
          exact ih (gmS (fun k => X 11 (50 + 15 * j + (3 + 2 * k))) c d S) (by omega) (by show S.2.1 + 1 + cn (gmS (fun k => X 11 (50 + 15 * j + (3 + 2 * k))) c d S).1 6 ≤ 6; omega) (by rw [← hR, gm, hfc, hfd])

set_option maxRecDepth 100000 in
set_option maxHeartbeats 4000000 in
theorem lp_M_lp3 (w : vWd) (a : Nat → Nat) (th : Int32) (Z : ZT) (sn gs ps : Nat) (X : Nat → Nat → Int32) (j : Nat) (na nj : Nat) (nl : Nat → Nat) (ac : Nat → Nat → Nat) (hN : okN (X 11) na nj nl ac) (hj : j < nj) : ∀ (m : Nat) (g : Nat), ((lpT X (nl j) j).2.2.1 + 1 ≤ g + m) → (g ≤ (lpT X (nl j) j).2.2.1) → V w mX8_laysPieces (vc w 12 0 0 (qE none (cLP w a th Z sn X (lpT X (nl j) j) (lpS X (nl j) j)))) 0 0 85 [(0, .ref (a 0)), (1, .int (nI j)), (2, .int (nI g))] [] (cLP w a th Z sn X (lpT X (nl j) j) (gms (lpT X (nl j) j).2.2.2 (mAm (X 11) j) (fun k => X 11 (50 + 15 * j + (3 + 2 * k))) (nl j) g (laF (nl j) (mAm (X 11) j) (X 23) 6, 0, X 20, X 21, X 22))) := by
  intro m
  induction m with
  | zero =>
    intro g h1 h2
    exact absurd h1 (by omega)
  | succ m ih =>
    intro g h1 h2
    obtain ⟨hn0, hn1, hna, hnj, hnl, hac⟩ := id hN
    obtain ⟨hl1, hl2⟩ := hnl j hj
    have hgs : (lpT X (nl j) j).2.2.1 ≤ 6 := tr_gs (by show 0 ≤ 6; omega) (by omega) (by omega)
    have hok : (gms (lpT X (nl j) j).2.2.2 (mAm (X 11) j) (fun k => X 11 (50 + 15 * j + (3 + 2 * k))) (nl j) g (laF (nl j) (mAm (X 11) j) (X 23) 6, 0, X 20, X 21, X 22)).2.1 + cn (gms (lpT X (nl j) j).2.2.2 (mAm (X 11) j) (fun k => X 11 (50 + 15 * j + (3 + 2 * k))) (nl j) g (laF (nl j) (mAm (X 11) j) (X 23) 6, 0, X 20, X 21, X 22)).1 6 ≤ 6 := gms_ok hl2 (by have := cn_max (laF (nl j) (mAm (X 11) j) (X 23) 6, 0, X 20, X 21, X 22).1 6; show 0 + _ ≤ 6; omega)
    refine V_iload_n dX8_laysPieces_85 2 rfl ?_
    refine V_aload_n dX8_laysPieces_86 0 rfl ?_
    refine V_get dX8_laysPieces_87 fX8_189 0 rfl rfl ?_
    refine V_icmp_ge_n g ((lpT X (nl j) j).2.2.1) 256 dX8_laysPieces_90 (by decide) (by omega) (by omega) (fun zc1 => ?_) (fun zc1 => ?_)
    · exact V_vret dX8_laysPieces_256 rfl (nb rfl) (nb rfl) ⟨rfl, by rw [show g = (lpT X (nl j) j).2.2.1 by omega]; rfl⟩
    · refine V_aload_n dX8_laysPieces_93 0 rfl ?_
      refine V_iload_n dX8_laysPieces_94 1 rfl ?_
      refine V_iload_n dX8_laysPieces_95 2 rfl ?_
      refine V_iconst 0 dX8_laysPieces_96 (by decide) ?_
      refine V_selfR dX8_laysPieces_97 lX8_199 (e_M_nextLine w a th Z sn (lpT X (nl j) j).2.2.1 (gms (lpT X (nl j) j).2.2.2 (mAm (X 11) j) (fun k => X 11 (50 + 15 * j + (3 + 2 * k))) (nl j) g (laF (nl j) (mAm (X 11) j) (X 23) 6, 0, X 20, X 21, X 22)).2.1 (uX (uX (uX (uX (uX (uX (uX X 16 (lpT X (nl j) j).1) 17 (lpT X (nl j) j).2.2.2) 18 (lpT X (nl j) j).2.1) 23 (gms (lpT X (nl j) j).2.2.2 (mAm (X 11) j) (fun k => X 11 (50 + 15 * j + (3 + 2 * k))) (nl j) g (laF (nl j) (mAm (X 11) j) (X 23) 6, 0, X 20, X 21, X 22)).1) 20 (gms (lpT X (nl j) j).2.2.2 (mAm (X 11) j) (fun k => X 11 (50 + 15 * j + (3 + 2 * k))) (nl j) g (laF (nl j) (mAm (X 11) j) (X 23) 6, 0, X 20, X 21, X 22)).2.2.1) 21 (gms (lpT X (nl j) j).2.2.2 (mAm (X 11) j) (fun k => X 11 (50 + 15 * j + (3 + 2 * k))) (nl j) g (laF (nl j) (mAm (X 11) j) (X 23) 6, 0, X 20, X 21, X 22)).2.2.2.1) 22 (gms (lpT X (nl j) j).2.2.2 (mAm (X 11) j) (fun k => X 11 (50 + 15 * j + (3 + 2 * k))) (nl j) g (laF (nl j) (mAm (X 11) j) (X 23) 6, 0, X 20, X 21, X 22)).2.2.2.2) j na nj nl ac hN hj g false) rfl rfl 0 rfl rfl rfl rfl ?_
      refine V_istore_n dX8_laysPieces_100 rfl (L' := [(0, .ref (a 0)), (1, .int (nI j)), (2, .int (nI g)), (3, .int (oN (ff (pM (lpT X (nl j) j).2.2.2 (gms (lpT X (nl j) j).2.2.2 (mAm (X 11) j) (fun k => X 11 (50 + 15 * j + (3 + 2 * k))) (nl j) g (laF (nl j) (mAm (X 11) j) (X 23) 6, 0, X 20, X 21, X 22)).1 (mAm (X 11) j) g false) (nl j) 0)))]) rfl ?_
      refine V_aload_n dX8_laysPieces_101 0 rfl ?_
      refine V_iload_n dX8_laysPieces_102 1 rfl ?_
      refine V_iload_n dX8_laysPieces_103 2 rfl ?_
      refine V_iconst 1 dX8_laysPieces_104 (by decide) ?_
      refine V_selfR dX8_laysPieces_105 lX8_199 (e_M_nextLine w a th Z sn (lpT X (nl j) j).2.2.1 (gms (lpT X (nl j) j).2.2.2 (mAm (X 11) j) (fun k => X 11 (50 + 15 * j + (3 + 2 * k))) (nl j) g (laF (nl j) (mAm (X 11) j) (X 23) 6, 0, X 20, X 21, X 22)).2.1 (uX (uX (uX (uX (uX (uX (uX X 16 (lpT X (nl j) j).1) 17 (lpT X (nl j) j).2.2.2) 18 (lpT X (nl j) j).2.1) 23 (gms (lpT X (nl j) j).2.2.2 (mAm (X 11) j) (fun k => X 11 (50 + 15 * j + (3 + 2 * k))) (nl j) g (laF (nl j) (mAm (X 11) j) (X 23) 6, 0, X 20, X 21, X 22)).1) 20 (gms (lpT X (nl j) j).2.2.2 (mAm (X 11) j) (fun k => X 11 (50 + 15 * j + (3 + 2 * k))) (nl j) g (laF (nl j) (mAm (X 11) j) (X 23) 6, 0, X 20, X 21, X 22)).2.2.1) 21 (gms (lpT X (nl j) j).2.2.2 (mAm (X 11) j) (fun k => X 11 (50 + 15 * j + (3 + 2 * k))) (nl j) g (laF (nl j) (mAm (X 11) j) (X 23) 6, 0, X 20, X 21, X 22)).2.2.2.1) 22 (gms (lpT X (nl j) j).2.2.2 (mAm (X 11) j) (fun k => X 11 (50 + 15 * j + (3 + 2 * k))) (nl j) g (laF (nl j) (mAm (X 11) j) (X 23) 6, 0, X 20, X 21, X 22)).2.2.2.2) j na nj nl ac hN hj g true) rfl rfl 0 rfl rfl rfl rfl ?_
      refine V_istore dX8_laysPieces_108 rfl (L' := [(0, .ref (a 0)), (1, .int (nI j)), (2, .int (nI g)), (3, .int (oN (ff (pM (lpT X (nl j) j).2.2.2 (gms (lpT X (nl j) j).2.2.2 (mAm (X 11) j) (fun k => X 11 (50 + 15 * j + (3 + 2 * k))) (nl j) g (laF (nl j) (mAm (X 11) j) (X 23) 6, 0, X 20, X 21, X 22)).1 (mAm (X 11) j) g false) (nl j) 0))), (4, .int (oN (ff (pM (lpT X (nl j) j).2.2.2 (gms (lpT X (nl j) j).2.2.2 (mAm (X 11) j) (fun k => X 11 (50 + 15 * j + (3 + 2 * k))) (nl j) g (laF (nl j) (mAm (X 11) j) (X 23) 6, 0, X 20, X 21, X 22)).1 (mAm (X 11) j) g true) (nl j) 0)))]) rfl ?_
      refine lp_M_lp2 w a th Z sn gs ps X j na nj nl ac hN hj g (gms (lpT X (nl j) j).2.2.2 (mAm (X 11) j) (fun k => X 11 (50 + 15 * j + (3 + 2 * k))) (nl j) (g + 1) (laF (nl j) (mAm (X 11) j) (X 23) 6, 0, X 20, X 21, X 22)) ?_ 7 (gms (lpT X (nl j) j).2.2.2 (mAm (X 11) j) (fun k => X 11 (50 + 15 * j + (3 + 2 * k))) (nl j) g (laF (nl j) (mAm (X 11) j) (X 23) 6, 0, X 20, X 21, X 22)) (by have := cn_max (gms (lpT X (nl j) j).2.2.2 (mAm (X 11) j) (fun k => X 11 (50 + 15 * j + (3 + 2 * k))) (nl j) g (laF (nl j) (mAm (X 11) j) (X 23) 6, 0, X 20, X 21, X 22)).1 6; omega) hok (by rw [gms])
      refine V_iinc (nI (g + 1)) dX8_laysPieces_250 2 rfl (nI_i1 g) rfl (L' := [(0, .ref (a 0)), (1, .int (nI j)), (2, .int (nI (g + 1)))]) rfl ?_
      refine V_goto 85 dX8_laysPieces_253 (by decide) ?_
      exact ih (g + 1) (by omega) (by omega)

set_option maxRecDepth 100000 in
set_option maxHeartbeats 4000000 in
theorem lp_M_lp1 (w : vWd) (a : Nat → Nat) (th : Int32) (Z : ZT) (sn gs ps : Nat) (X : Nat → Nat → Int32) (j : Nat) (na nj : Nat) (nl : Nat → Nat) (ac : Nat → Nat → Nat) (hN : okN (X 11) na nj nl ac) (hj : j < nj) : ∀ (m : Nat) (k : Nat), (7 ≤ k + m) → (k ≤ 6) → V w mX8_laysPieces (vc w 12 0 0 (qE none (cLP w a th Z sn X (lpT X (nl j) j) (lpS X (nl j) j)))) 0 0 2 [(0, .ref (a 0)), (1, .int (nI j)), (2, .int (nI k))] [] (cG w a th Z sn gs ps (uX (uX X 18 (zsF (X 18) k)) 23 (laF (nl j) (mAm (X 11) j) (X 23) k))) := by
  intro m
  induction m with
  | zero =>
    intro k h1 h2
    exact absurd h1 (by omega)
  | succ m ih =>
    intro k h1 h2
    obtain ⟨hn0, hn1, hna, hnj, hnl, hac⟩ := id hN
    obtain ⟨hl1, hl2⟩ := hnl j hj
    refine V_iload_n dX8_laysPieces_2 2 rfl ?_
    refine V_bipush 6 dX8_laysPieces_3 (by decide) ?_
    refine V_icmp_ge_n k 6 66 dX8_laysPieces_5 (by decide) (by omega) (by omega) (fun zc1 => ?_) (fun zc1 => ?_)
    · obtain rfl : k = 6 := by omega
      refine V_aload_n dX8_laysPieces_66 0 rfl ?_
      refine V_iconst 0 dX8_laysPieces_67 (by decide) ?_
      refine V_put dX8_laysPieces_68 pX8_189 0 rfl rfl rfl rfl (ws' := cG w a th Z sn 0 ps (uX (uX X 18 (zsF (X 18) 6)) 23 (laF (nl j) (mAm (X 11) j) (X 23) 6))) rfl ?_
      refine V_aload_n dX8_laysPieces_71 0 rfl ?_
      refine V_iload_n dX8_laysPieces_72 1 rfl ?_
      refine V_iconst 0 dX8_laysPieces_73 (by decide) ?_
      refine V_iconst 0 dX8_laysPieces_74 (by decide) ?_
      refine V_ws (ws' := cTS w a th Z sn ps (uX X 23 (laF (nl j) (mAm (X 11) j) (X 23) 6)) (X 16, zsF (X 18) 6, 0, X 17)) rfl ?_
      refine V_selfE (ws' := cTS w a th Z sn ps (uX X 23 (laF (nl j) (mAm (X 11) j) (X 23) 6)) (lpT X (nl j) j)) dX8_laysPieces_75 lX8_192 (e_M_tries w a th Z sn ps (uX X 23 (laF (nl j) (mAm (X 11) j) (X 23) 6)) j na nj nl ac hN hj (nl j) 0 0 (X 16, zsF (X 18) 6, 0, X 17) (by omega) (by omega) (by show 0 ≤ 6; omega)) rfl rfl 0 rfl rfl rfl (vchk_d (by omega) (by decide) (nb rfl)) ?_
      refine V_ws (ws' := cLP w a th Z sn X (lpT X (nl j) j) (laF (nl j) (mAm (X 11) j) (X 23) 6, ps, X 20, X 21, X 22)) rfl ?_
      refine V_aload_n dX8_laysPieces_78 0 rfl ?_
      refine V_iconst 0 dX8_laysPieces_79 (by decide) ?_
      refine V_put dX8_laysPieces_80 pX8_196 0 rfl rfl rfl rfl (ws' := cLP w a th Z sn X (lpT X (nl j) j) ((laF (nl j) (mAm (X 11) j) (X 23) 6, ps, X 20, X 21, X 22).1, 0, (laF (nl j) (mAm (X 11) j) (X 23) 6, ps, X 20, X 21, X 22).2.2.1, (laF (nl j) (mAm (X 11) j) (X 23) 6, ps, X 20, X 21, X 22).2.2.2.1, (laF (nl j) (mAm (X 11) j) (X 23) 6, ps, X 20, X 21, X 22).2.2.2.2)) rfl ?_
      refine V_iconst 0 dX8_laysPieces_83 (by decide) ?_
      refine V_istore_n dX8_laysPieces_84 rfl (L' := [(0, .ref (a 0)), (1, .int (nI j)), (2, .int 0)]) rfl ?_
      refine V_ws (ws' := cLP w a th Z sn X (lpT X (nl j) j) (gms (lpT X (nl j) j).2.2.2 (mAm (X 11) j) (fun k => X 11 (50 + 15 * j + (3 + 2 * k))) (nl j) 0 (laF (nl j) (mAm (X 11) j) (X 23) 6, 0, X 20, X 21, X 22))) rfl ?_
      exact lp_M_lp3 w a th Z sn gs ps X j na nj nl ac hN hj ((lpT X (nl j) j).2.2.1 + 1) 0 (by omega) (by omega)
    · refine V_aload_n dX8_laysPieces_8 0 rfl ?_
      refine V_get dX8_laysPieces_9 fX8_91 0 rfl rfl ?_
      refine V_iload_n dX8_laysPieces_12 2 rfl ?_
      refine V_iconst 0 dX8_laysPieces_13 (by decide) ?_
      refine V_iast dX8_laysPieces_14 7 rfl rfl k rfl (by omega) (ws' := cG w a th Z sn gs ps (uX (uX X 18 (upd (zsF (X 18) k) k 0)) 23 (laF (nl j) (mAm (X 11) j) (X 23) k))) rfl ?_
      refine V_aload_n dX8_laysPieces_15 0 rfl ?_
      refine V_get dX8_laysPieces_16 fX8_103 0 rfl rfl ?_
      refine V_iload_n dX8_laysPieces_19 2 rfl ?_
      refine V_iload_n dX8_laysPieces_20 2 rfl ?_
      refine V_aload_n dX8_laysPieces_21 0 rfl ?_
      refine V_iload_n dX8_laysPieces_22 1 rfl ?_
      refine V_iconst 2 dX8_laysPieces_23 (by decide) ?_
      refine V_selfR dX8_laysPieces_24 lX8_167 (e_M_told w a th Z sn gs ps (uX (uX X 18 (upd (zsF (X 18) k) k 0)) 23 (laF (nl j) (mAm (X 11) j) (X 23) k)) j 2 (by omega)) rfl rfl 0 rfl rfl rfl rfl ?_
      refine V_casti (y := nI (nl j)) hl1 ?_
      refine V_icmp_lt_n k (nl j) 34 dX8_laysPieces_27 (by decide) (by omega) (by omega) (fun zc2 => ?_) (fun zc2 => ?_)
      · refine V_aload_n dX8_laysPieces_34 0 rfl ?_
        refine V_iload_n dX8_laysPieces_35 1 rfl ?_
        refine V_iload_n dX8_laysPieces_36 2 rfl ?_
        refine V_selfR dX8_laysPieces_37 lX8_173 (e_M_amountOf w a th Z sn gs ps (uX (uX X 18 (upd (zsF (X 18) k) k 0)) 23 (laF (nl j) (mAm (X 11) j) (X 23) k)) j k (by omega)) rfl rfl 0 rfl rfl rfl rfl ?_
        refine V_if_ge 53 dX8_laysPieces_40 (by decide) (fun zc3 => ?_) (fun zc3 => ?_)
        · have ham : 0 ≤ mAm (X 11) j k := zc3
          refine V_aload_n dX8_laysPieces_53 0 rfl ?_
          refine V_iload_n dX8_laysPieces_54 1 rfl ?_
          refine V_iload_n dX8_laysPieces_55 2 rfl ?_
          refine V_selfR dX8_laysPieces_56 lX8_173 (e_M_amountOf w a th Z sn gs ps (uX (uX X 18 (upd (zsF (X 18) k) k 0)) 23 (laF (nl j) (mAm (X 11) j) (X 23) k)) j k (by omega)) rfl rfl 0 rfl rfl rfl rfl ?_
          refine V_iast dX8_laysPieces_59 11 rfl rfl k rfl (by omega) (ws' := cG w a th Z sn gs ps (uX (uX X 18 (upd (zsF (X 18) k) k 0)) 23 (upd (laF (nl j) (mAm (X 11) j) (X 23) k) k (mAm (X 11) j k)))) rfl ?_
          refine V_iinc (nI (k + 1)) dX8_laysPieces_60 2 rfl (nI_i1 k) rfl (L' := [(0, .ref (a 0)), (1, .int (nI j)), (2, .int (nI (k + 1)))]) rfl ?_
          refine V_goto 2 dX8_laysPieces_63 (by decide) ?_
          refine V_ws (ws' := cG w a th Z sn gs ps (uX (uX X 18 (zsF (X 18) (k + 1))) 23 (laF (nl j) (mAm (X 11) j) (X 23) (k + 1)))) (by rw [laF, zsF, if_neg (by omega), if_neg (Int32.not_lt.mpr ham)]) ?_
          exact ih (k + 1) (by omega) (by omega)
        · have ham : ¬ 0 ≤ mAm (X 11) j k := zc3
          refine V_aload_n dX8_laysPieces_43 0 rfl ?_
          refine V_iload_n dX8_laysPieces_44 1 rfl ?_
          refine V_iload_n dX8_laysPieces_45 2 rfl ?_
          refine V_selfR dX8_laysPieces_46 lX8_173 (e_M_amountOf w a th Z sn gs ps (uX (uX X 18 (upd (zsF (X 18) k) k 0)) 23 (laF (nl j) (mAm (X 11) j) (X 23) k)) j k (by omega)) rfl rfl 0 rfl rfl rfl rfl ?_
          refine V_ineg dX8_laysPieces_49 ?_
          refine V_goto 59 dX8_laysPieces_50 (by decide) ?_
          refine V_iast dX8_laysPieces_59 11 rfl rfl k rfl (by omega) (ws' := cG w a th Z sn gs ps (uX (uX X 18 (upd (zsF (X 18) k) k 0)) 23 (upd (laF (nl j) (mAm (X 11) j) (X 23) k) k (-(mAm (X 11) j k))))) rfl ?_
          refine V_iinc (nI (k + 1)) dX8_laysPieces_60 2 rfl (nI_i1 k) rfl (L' := [(0, .ref (a 0)), (1, .int (nI j)), (2, .int (nI (k + 1)))]) rfl ?_
          refine V_goto 2 dX8_laysPieces_63 (by decide) ?_
          refine V_ws (ws' := cG w a th Z sn gs ps (uX (uX X 18 (zsF (X 18) (k + 1))) 23 (laF (nl j) (mAm (X 11) j) (X 23) (k + 1)))) (by rw [laF, zsF, if_neg (by omega), if_pos (Int32.not_le.mp ham)]) ?_
          exact ih (k + 1) (by omega) (by omega)
      · refine V_iconst 0 dX8_laysPieces_30 (by decide) ?_
        refine V_goto 59 dX8_laysPieces_31 (by decide) ?_
        refine V_iast dX8_laysPieces_59 11 rfl rfl k rfl (by omega) (ws' := cG w a th Z sn gs ps (uX (uX X 18 (upd (zsF (X 18) k) k 0)) 23 (upd (laF (nl j) (mAm (X 11) j) (X 23) k) k 0))) rfl ?_
        refine V_iinc (nI (k + 1)) dX8_laysPieces_60 2 rfl (nI_i1 k) rfl (L' := [(0, .ref (a 0)), (1, .int (nI j)), (2, .int (nI (k + 1)))]) rfl ?_
        refine V_goto 2 dX8_laysPieces_63 (by decide) ?_
        refine V_ws (ws' := cG w a th Z sn gs ps (uX (uX X 18 (zsF (X 18) (k + 1))) 23 (laF (nl j) (mAm (X 11) j) (X 23) (k + 1)))) (by rw [laF, zsF, if_pos (by omega)]) ?_
        exact ih (k + 1) (by omega) (by omega)

set_option maxRecDepth 100000 in
set_option maxHeartbeats 4000000 in
theorem e_M_laysPieces (w : vWd) (a : Nat → Nat) (th : Int32) (Z : ZT) (sn gs ps : Nat) (X : Nat → Nat → Int32) (j : Nat) (na nj : Nat) (nl : Nat → Nat) (ac : Nat → Nat → Nat) (hN : okN (X 11) na nj nl ac) (hj : j < nj) : Ct w mX8_laysPieces 12 0 0 [.ref (a 0), .int (nI j)] (cG w a th Z sn gs ps X) (qE none (cLP w a th Z sn X (lpT X (nl j) j) (lpS X (nl j) j))) := by
  refine Ct.of (L := [(0, .ref (a 0)), (1, .int (nI j))]) (by decide) rfl rfl ?_
  refine V_iconst 0 dX8_laysPieces_0 (by decide) ?_
  refine V_istore_n dX8_laysPieces_1 rfl (L' := [(0, .ref (a 0)), (1, .int (nI j)), (2, .int 0)]) rfl ?_
  refine V_ws (ws' := cG w a th Z sn gs ps (uX (uX X 18 (zsF (X 18) 0)) 23 (laF (nl j) (mAm (X 11) j) (X 23) 0))) rfl ?_
  exact lp_M_lp1 w a th Z sn gs ps X j na nj nl ac hN hj 7 0 (by omega) (by omega)
