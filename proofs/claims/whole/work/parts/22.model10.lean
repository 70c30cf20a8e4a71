/-! 22: the reference: what changes its book -/
theorem V_ldcw {w : vWd} {M : vMet} {C : vCtx} {k n pc : Nat} {L : List (Nat × Value)} {st : List Value} {ws : va_W} {i : Nat} {v : Int32} (hd : vdec M pc (.ldc_w i) 3) (hc : Cond.constant M.1.cls i v ∈ TT) (h : V w M C k n (pc + 3) L (.int v :: st) ws) : V w M C k n pc L st ws :=
  fun p e s m args below meth c A H locs ls o E hP hD hS hl => lv_ldcw o.1 o.2.1 o.2.2.2.2.1 (o.2.2.2.2.2.1 _ hc) hd (h p e s m args below meth c A H locs ls o E hP hD hS hl)
def sh5 (f : Nat → Int32) (k : Nat) : Nat → Int32 := fun j => if j < k then f (j + 500) else f j
theorem sh5_0 (f : Nat → Int32) : sh5 f 0 = f := funext fun j => by simp [sh5]
theorem sh5_s (f : Nat → Int32) (k : Nat) : upd (sh5 f k) k (sh5 f k (k + 500)) = sh5 f (k + 1) := by
  funext j
  by_cases h : j = k
  · subst h; simp [upd, sh5, show ¬ j + 500 < j by omega]
  · by_cases h2 : j < k
    · simp [upd, sh5, h, h2, Nat.lt_succ_of_lt h2]
    · simp [upd, sh5, h, h2, show ¬ j < k + 1 by omega]
/-- the first k of g laid into f from b on -/
def cps (f : Nat → Int32) (b : Nat) (g : Nat → Int32) (k : Nat) : Nat → Int32 := fun j => if b ≤ j ∧ j < b + k then g (j - b) else f j
theorem cps_0 (f : Nat → Int32) (b : Nat) (g : Nat → Int32) : cps f b g 0 = f := funext fun j => by simp [cps]; intro h1 h2; omega
theorem cps_s (f : Nat → Int32) (b : Nat) (g : Nat → Int32) (k : Nat) : upd (cps f b g k) (b + k) (g k) = cps f b g (k + 1) := by
  funext j
  by_cases h : j = b + k
  · subst h
    simp only [upd, cps, if_pos, if_true, Nat.le_add_right, true_and]
    rw [if_pos (by omega), Nat.add_sub_cancel_left]
  · simp only [upd, if_neg h, cps]
    by_cases h2 : b ≤ j ∧ j < b + k
    · rw [if_pos h2, if_pos (by omega)]
    · rw [if_neg h2, if_neg (by omega)]
def snS (S : Nat → Int32) (sn : Nat) (N : Nat → Int32) : Nat → Int32 := if sn = 10 then cps (sh5 S 4500) 4500 N 500 else cps S (500 * sn) N 500
def snN (sn : Nat) : Nat := if sn = 10 then 10 else sn + 1

set_option maxRecDepth 100000 in
set_option maxHeartbeats 4000000 in
theorem lp_M_snap2 (w : vWd) (a : Nat → Nat) (th : Int32) (Z : ZT) (gs ps : Nat) (X : Nat → Nat → Int32) (s1 : Nat) (S1 : Nat → Int32) (hs : s1 ≤ 9) : ∀ (m : Nat) (k : Nat), (501 ≤ k + m) → (k ≤ 500) → V w mX8_snap (vc w 0 0 0 (qE none (cG w a th Z (s1 + 1) gs ps (uX X 13 (cps S1 (500 * s1) (X 11) 500))))) 0 0 52 [(0, .ref (a 0)), (1, .int (nI k))] [] (cG w a th Z s1 gs ps (uX X 13 (cps S1 (500 * s1) (X 11) k))) := by
  intro m
  induction m with
  | zero =>
    intro k h1 h2
    exact absurd h1 (by omega)
  | succ m ih =>
    intro k h1 h2
    refine V_iload_n dX8_snap_52 1 rfl ?_
    refine V_sipush 500 dX8_snap_53 (by decide) ?_
    refine V_icmp_ge_n k 500 86 dX8_snap_56 (by decide) (by omega) (by omega) (fun zc1 => ?_) (fun zc1 => ?_)
    · refine V_aload_n dX8_snap_86 0 rfl ?_
      refine V_dup dX8_snap_87 rfl ?_
      refine V_get dX8_snap_88 fX8_160 0 rfl rfl ?_
      refine V_iconst 1 dX8_snap_91 (by decide) ?_
      refine V_iadd dX8_snap_92 ?_
      refine V_casti (y := nI (s1 + 1)) (nI_add s1 1) ?_
      refine V_put dX8_snap_93 pX8_160 0 rfl rfl rfl rfl (ws' := cG w a th Z (s1 + 1) gs ps (uX X 13 (cps S1 (500 * s1) (X 11) k))) rfl ?_
      exact V_vret dX8_snap_96 rfl (nb rfl) (nb rfl) ⟨rfl, by rw [show k = 500 by omega]⟩
    · refine V_aload_n dX8_snap_59 0 rfl ?_
      refine V_get dX8_snap_60 fX8_82 0 rfl rfl ?_
      refine V_sipush 500 dX8_snap_63 (by decide) ?_
      refine V_aload_n dX8_snap_66 0 rfl ?_
      refine V_get dX8_snap_67 fX8_160 0 rfl rfl ?_
      refine V_imul dX8_snap_70 ?_
      refine V_casti (y := nI (500 * s1)) (pk_mul 500 s1) ?_
      refine V_iload_n dX8_snap_71 1 rfl ?_
      refine V_iadd dX8_snap_72 ?_
      refine V_casti (y := nI ((500 * s1) + k)) (nI_add (500 * s1) k) ?_
      refine V_aload_n dX8_snap_73 0 rfl ?_
      refine V_get dX8_snap_74 fX8_76 0 rfl rfl ?_
      refine V_iload_n dX8_snap_77 1 rfl ?_
      refine V_iald dX8_snap_78 2 rfl rfl k rfl (by omega) ?_
      refine V_iast dX8_snap_79 4 rfl rfl ((500 * s1) + k) rfl (by omega) (ws' := cG w a th Z s1 gs ps (uX X 13 (upd (cps S1 (500 * s1) (X 11) k) ((500 * s1) + k) ((X 11) k)))) rfl ?_
      refine V_iinc (nI (k + 1)) dX8_snap_80 1 rfl (nI_i1 k) rfl (L' := [(0, .ref (a 0)), (1, .int (nI (k + 1)))]) rfl ?_
      refine V_goto 52 dX8_snap_83 (by decide) ?_
      rw [cps_s]
      exact ih (k + 1) (by omega) (by omega)

set_option maxRecDepth 100000 in
set_option maxHeartbeats 4000000 in
theorem lp_M_snap1 (w : vWd) (a : Nat → Nat) (th : Int32) (Z : ZT) (gs ps : Nat) (X : Nat → Nat → Int32) : ∀ (m : Nat) (k : Nat), (4501 ≤ k + m) → (k ≤ 4500) → V w mX8_snap (vc w 0 0 0 (qE none (cG w a th Z (snN 10) gs ps (uX X 13 (snS (X 13) 10 (X 11)))))) 0 0 11 [(0, .ref (a 0)), (1, .int (nI k))] [] (cG w a th Z 10 gs ps (uX X 13 (sh5 (X 13) k))) := by
  intro m
  induction m with
  | zero =>
    intro k h1 h2
    exact absurd h1 (by omega)
  | succ m ih =>
    intro k h1 h2
    refine V_iload_n dX8_snap_11 1 rfl ?_
    refine V_sipush 4500 dX8_snap_12 (by decide) ?_
    refine V_icmp_ge_n k 4500 40 dX8_snap_15 (by decide) (by omega) (by omega) (fun zc1 => ?_) (fun zc1 => ?_)
    · refine V_aload_n dX8_snap_40 0 rfl ?_
      refine V_dup dX8_snap_41 rfl ?_
      refine V_get dX8_snap_42 fX8_160 0 rfl rfl ?_
      refine V_iconst 1 dX8_snap_45 (by decide) ?_
      refine V_isub dX8_snap_46 ?_
      refine V_casti (y := nI 9) (by decide) ?_
      refine V_put dX8_snap_47 pX8_160 0 rfl rfl rfl rfl (ws' := cG w a th Z 9 gs ps (uX X 13 (sh5 (X 13) k))) rfl ?_
      refine V_iconst 0 dX8_snap_50 (by decide) ?_
      refine V_istore_n dX8_snap_51 rfl (L' := [(0, .ref (a 0)), (1, .int 0)]) rfl ?_
      have hx := lp_M_snap2 w a th Z gs ps X 9 (sh5 (X 13) k) (by omega) 501 0 (by omega) (by omega)
      rw [cps_0] at hx
      rw [show snN 10 = 9 + 1 from rfl, show snS (X 13) 10 (X 11) = cps (sh5 (X 13) k) (500 * 9) (X 11) 500 by rw [snS, if_pos rfl, show k = 4500 by omega]]
      exact hx
    · refine V_aload_n dX8_snap_18 0 rfl ?_
      refine V_get dX8_snap_19 fX8_82 0 rfl rfl ?_
      refine V_iload_n dX8_snap_22 1 rfl ?_
      refine V_aload_n dX8_snap_23 0 rfl ?_
      refine V_get dX8_snap_24 fX8_82 0 rfl rfl ?_
      refine V_iload_n dX8_snap_27 1 rfl ?_
      refine V_sipush 500 dX8_snap_28 (by decide) ?_
      refine V_iadd dX8_snap_31 ?_
      refine V_casti (y := nI (k + 500)) (nI_add k 500) ?_
      refine V_iald dX8_snap_32 4 rfl rfl (k + 500) rfl (by omega) ?_
      refine V_iast dX8_snap_33 4 rfl rfl k rfl (by omega) (ws' := cG w a th Z 10 gs ps (uX X 13 (upd (sh5 (X 13) k) k ((sh5 (X 13) k) (k + 500))))) rfl ?_
      refine V_iinc (nI (k + 1)) dX8_snap_34 1 rfl (nI_i1 k) rfl (L' := [(0, .ref (a 0)), (1, .int (nI (k + 1)))]) rfl ?_
      refine V_goto 11 dX8_snap_37 (by decide) ?_
      rw [sh5_s]
      exact ih (k + 1) (by omega) (by omega)

set_option maxRecDepth 100000 in
set_option maxHeartbeats 4000000 in
theorem e_M_snap (w : vWd) (a : Nat → Nat) (th : Int32) (Z : ZT) (sn gs ps : Nat) (X : Nat → Nat → Int32) (hsn : sn ≤ 10) : Ct w mX8_snap 0 0 0 [.ref (a 0)] (cG w a th Z sn gs ps X) (qE none (cG w a th Z (snN sn) gs ps (uX X 13 (snS (X 13) sn (X 11))))) := by
  refine Ct.of (L := [(0, .ref (a 0))]) (by decide) rfl rfl ?_
  refine V_aload_n dX8_snap_0 0 rfl ?_
  refine V_get dX8_snap_1 fX8_160 0 rfl rfl ?_
  refine V_bipush 10 dX8_snap_4 (by decide) ?_
  refine V_icmp_ne_n sn 10 50 dX8_snap_6 (by decide) (by omega) (by omega) (fun zc1 => ?_) (fun zc1 => ?_)
  · refine V_iconst 0 dX8_snap_50 (by decide) ?_
    refine V_istore_n dX8_snap_51 rfl (L' := [(0, .ref (a 0)), (1, .int 0)]) rfl ?_
    have hx := lp_M_snap2 w a th Z gs ps X sn (X 13) (by omega) 501 0 (by omega) (by omega)
    rw [cps_0] at hx
    rw [snN, snS, if_neg (by omega), if_neg (by omega)]
    exact hx
  · refine V_iconst 0 dX8_snap_9 (by decide) ?_
    refine V_istore_n dX8_snap_10 rfl (L' := [(0, .ref (a 0)), (1, .int 0)]) rfl ?_
    subst zc1
    have hx := lp_M_snap1 w a th Z gs ps X 4501 0 (by omega) (by omega)
    rw [sh5_0] at hx
    exact hx

set_option maxRecDepth 100000 in
set_option maxHeartbeats 4000000 in
theorem e_M_canPost (w : vWd) (a : Nat → Nat) (th : Int32) (Z : ZT) (sn gs ps : Nat) (X : Nat → Nat → Int32) (x y am : Int32) (na nj : Nat) (nl : Nat → Nat) (ac : Nat → Nat → Nat) (hN : okN (X 11) na nj nl ac) : Ct w mX8_canPost 2 0 0 [.ref (a 0), .int x, .int y, .int am] (cG w a th Z sn gs ps X) (qE (some (.int (bi (inA na x && inA na y && decide (x ≠ y) && isInB am 1 99999)))) (cG w a th Z sn gs ps X)) := by
  refine Ct.of (L := [(0, .ref (a 0)), (1, .int x), (2, .int y), (3, .int am)]) (by decide) rfl rfl ?_
  refine V_aload_n dX8_canPost_0 0 rfl ?_
  refine V_iload_n dX8_canPost_1 1 rfl ?_
  refine V_selfR dX8_canPost_2 lX8_206 (e_M_isAccount w a th Z sn gs ps X x na nj nl ac hN) rfl rfl 0 rfl rfl rfl rfl ?_
  refine V_ifeq_b 35 dX8_canPost_5 (by decide) (fun zc1 => ?_) (fun zc1 => ?_)
  · refine V_iconst 0 dX8_canPost_35 (by decide) ?_
    exact V_zret dX8_canPost_36 rfl rfl (nb rfl) (nb rfl) ⟨by clear hN; grind [bi], rfl⟩
  · refine V_aload_n dX8_canPost_8 0 rfl ?_
    refine V_iload_n dX8_canPost_9 2 rfl ?_
    refine V_selfR dX8_canPost_10 lX8_206 (e_M_isAccount w a th Z sn gs ps X y na nj nl ac hN) rfl rfl 0 rfl rfl rfl rfl ?_
    refine V_ifeq_b 35 dX8_canPost_13 (by decide) (fun zc2 => ?_) (fun zc2 => ?_)
    · refine V_iconst 0 dX8_canPost_35 (by decide) ?_
      exact V_zret dX8_canPost_36 rfl rfl (nb rfl) (nb rfl) ⟨by clear hN; grind [bi], rfl⟩
    · refine V_iload_n dX8_canPost_16 1 rfl ?_
      refine V_iload_n dX8_canPost_17 2 rfl ?_
      refine V_icmp_eq 35 dX8_canPost_18 (by decide) (fun zc3 => ?_) (fun zc3 => ?_)
      · refine V_iconst 0 dX8_canPost_35 (by decide) ?_
        exact V_zret dX8_canPost_36 rfl rfl (nb rfl) (nb rfl) ⟨by clear hN; grind [bi], rfl⟩
      · refine V_iload_n dX8_canPost_21 3 rfl ?_
        refine V_iconst 1 dX8_canPost_22 (by decide) ?_
        refine V_ldc dX8_canPost_23 kX8_125 ?_
        refine V_purS dX8_canPost_25 lX8_112 (c_M_isIn w am 1 99999) rfl rfl rfl ?_
        refine V_ifeq_b 35 dX8_canPost_28 (by decide) (fun zc4 => ?_) (fun zc4 => ?_)
        · refine V_iconst 0 dX8_canPost_35 (by decide) ?_
          exact V_zret dX8_canPost_36 rfl rfl (nb rfl) (nb rfl) ⟨by clear hN; grind [bi], rfl⟩
        · refine V_iconst 1 dX8_canPost_31 (by decide) ?_
          refine V_goto 36 dX8_canPost_32 (by decide) ?_
          exact V_zret dX8_canPost_36 rfl rfl (nb rfl) (nb rfl) ⟨by clear hN; grind [bi], rfl⟩

def adF (N : Nat → Int32) (j n : Nat) (x y am : Int32) : Nat → Int32 := upd (upd (upd (upd (upd N (50 + 15 * j + 3 + 2 * n) x) (50 + 15 * j + 3 + 2 * n + 1) am) (50 + 15 * j + 3 + 2 * n + 2) y) (50 + 15 * j + 3 + 2 * n + 3) (-am)) (50 + 15 * j + 2) (nI (n + 2))

set_option maxRecDepth 100000 in
set_option maxHeartbeats 4000000 in
theorem e_M_adds (w : vWd) (a : Nat → Nat) (th : Int32) (Z : ZT) (sn gs ps : Nat) (X : Nat → Nat → Int32) (j n : Nat) (x y am : Int32) (hj : j < 30) (hn : X 11 (50 + 15 * j + 2) = nI n) (hn4 : n ≤ 4) : Ct w mX8_adds 0 0 0 [.ref (a 0), .int (nI j), .int x, .int y, .int am] (cG w a th Z sn gs ps X) (qE (some (.int (nI (n + 2)))) (cG w a th Z sn gs ps (uX X 11 (adF (X 11) j n x y am)))) := by
  refine Ct.of (L := [(0, .ref (a 0)), (1, .int (nI j)), (2, .int x), (3, .int y), (4, .int am)]) (by decide) rfl rfl ?_
  refine V_bipush 50 dX8_adds_0 (by decide) ?_
  refine V_bipush 15 dX8_adds_2 (by decide) ?_
  refine V_iload_n dX8_adds_4 1 rfl ?_
  refine V_imul dX8_adds_5 ?_
  refine V_casti (y := nI (15 * j)) (pk_mul 15 j) ?_
  refine V_iadd dX8_adds_6 ?_
  refine V_casti (y := nI (50 + (15 * j))) (nI_add 50 (15 * j)) ?_
  refine V_istore dX8_adds_7 rfl (L' := [(0, .ref (a 0)), (1, .int (nI j)), (2, .int x), (3, .int y), (4, .int am), (5, .int (nI (50 + (15 * j))))]) rfl ?_
  refine V_iload dX8_adds_9 5 rfl ?_
  refine V_iconst 3 dX8_adds_11 (by decide) ?_
  refine V_iadd dX8_adds_12 ?_
  refine V_casti (y := nI ((50 + (15 * j)) + 3)) (nI_add (50 + (15 * j)) 3) ?_
  refine V_iconst 2 dX8_adds_13 (by decide) ?_
  refine V_aload_n dX8_adds_14 0 rfl ?_
  refine V_get dX8_adds_15 fX8_76 0 rfl rfl ?_
  refine V_iload dX8_adds_18 5 rfl ?_
  refine V_iconst 2 dX8_adds_20 (by decide) ?_
  refine V_iadd dX8_adds_21 ?_
  refine V_casti (y := nI ((50 + (15 * j)) + 2)) (nI_add (50 + (15 * j)) 2) ?_
  refine V_iald dX8_adds_22 2 rfl rfl ((50 + (15 * j)) + 2) rfl (by omega) ?_
  refine V_casti (y := nI n) hn ?_
  refine V_imul dX8_adds_23 ?_
  refine V_casti (y := nI (2 * n)) (pk_mul 2 n) ?_
  refine V_iadd dX8_adds_24 ?_
  refine V_casti (y := nI (((50 + (15 * j)) + 3) + (2 * n))) (nI_add ((50 + (15 * j)) + 3) (2 * n)) ?_
  refine V_istore dX8_adds_25 rfl (L' := [(0, .ref (a 0)), (1, .int (nI j)), (2, .int x), (3, .int y), (4, .int am), (5, .int (nI (50 + (15 * j)))), (6, .int (nI (((50 + (15 * j)) + 3) + (2 * n))))]) rfl ?_
  refine V_aload_n dX8_adds_27 0 rfl ?_
  refine V_get dX8_adds_28 fX8_76 0 rfl rfl ?_
  refine V_iload dX8_adds_31 6 rfl ?_
  refine V_iload_n dX8_adds_33 2 rfl ?_
  refine V_iast dX8_adds_34 2 rfl rfl (((50 + (15 * j)) + 3) + (2 * n)) rfl (by omega) (ws' := cG w a th Z sn gs ps (uX X 11 (upd (X 11) (((50 + (15 * j)) + 3) + (2 * n)) x))) rfl ?_
  refine V_aload_n dX8_adds_35 0 rfl ?_
  refine V_get dX8_adds_36 fX8_76 0 rfl rfl ?_
  refine V_iload dX8_adds_39 6 rfl ?_
  refine V_iconst 1 dX8_adds_41 (by decide) ?_
  refine V_iadd dX8_adds_42 ?_
  refine V_casti (y := nI ((((50 + (15 * j)) + 3) + (2 * n)) + 1)) (nI_add (((50 + (15 * j)) + 3) + (2 * n)) 1) ?_
  refine V_iload dX8_adds_43 4 rfl ?_
  refine V_iast dX8_adds_45 2 rfl rfl ((((50 + (15 * j)) + 3) + (2 * n)) + 1) rfl (by omega) (ws' := cG w a th Z sn gs ps (uX X 11 (upd (upd (X 11) (((50 + (15 * j)) + 3) + (2 * n)) x) ((((50 + (15 * j)) + 3) + (2 * n)) + 1) am))) rfl ?_
  refine V_aload_n dX8_adds_46 0 rfl ?_
  refine V_get dX8_adds_47 fX8_76 0 rfl rfl ?_
  refine V_iload dX8_adds_50 6 rfl ?_
  refine V_iconst 2 dX8_adds_52 (by decide) ?_
  refine V_iadd dX8_adds_53 ?_
  refine V_casti (y := nI ((((50 + (15 * j)) + 3) + (2 * n)) + 2)) (nI_add (((50 + (15 * j)) + 3) + (2 * n)) 2) ?_
  refine V_iload_n dX8_adds_54 3 rfl ?_
  refine V_iast dX8_adds_55 2 rfl rfl ((((50 + (15 * j)) + 3) + (2 * n)) + 2) rfl (by omega) (ws' := cG w a th Z sn gs ps (uX X 11 (upd (upd (upd (X 11) (((50 + (15 * j)) + 3) + (2 * n)) x) ((((50 + (15 * j)) + 3) + (2 * n)) + 1) am) ((((50 + (15 * j)) + 3) + (2 * n)) + 2) y))) rfl ?_
  refine V_aload_n dX8_adds_56 0 rfl ?_
  refine V_get dX8_adds_57 fX8_76 0 rfl rfl ?_
  refine V_iload dX8_adds_60 6 rfl ?_
  refine V_iconst 3 dX8_adds_62 (by decide) ?_
  refine V_iadd dX8_adds_63 ?_
  refine V_casti (y := nI ((((50 + (15 * j)) + 3) + (2 * n)) + 3)) (nI_add (((50 + (15 * j)) + 3) + (2 * n)) 3) ?_
  refine V_iload dX8_adds_64 4 rfl ?_
  refine V_ineg dX8_adds_66 ?_
  refine V_iast dX8_adds_67 2 rfl rfl ((((50 + (15 * j)) + 3) + (2 * n)) + 3) rfl (by omega) (ws' := cG w a th Z sn gs ps (uX X 11 (upd (upd (upd (upd (X 11) (((50 + (15 * j)) + 3) + (2 * n)) x) ((((50 + (15 * j)) + 3) + (2 * n)) + 1) am) ((((50 + (15 * j)) + 3) + (2 * n)) + 2) y) ((((50 + (15 * j)) + 3) + (2 * n)) + 3) (-am)))) rfl ?_
  refine V_aload_n dX8_adds_68 0 rfl ?_
  refine V_get dX8_adds_69 fX8_76 0 rfl rfl ?_
  refine V_iload dX8_adds_72 5 rfl ?_
  refine V_iconst 2 dX8_adds_74 (by decide) ?_
  refine V_iadd dX8_adds_75 ?_
  refine V_casti (y := nI ((50 + (15 * j)) + 2)) (nI_add (50 + (15 * j)) 2) ?_
  refine V_dup2 dX8_adds_76 rfl rfl ?_
  refine V_iald dX8_adds_77 2 rfl rfl ((50 + (15 * j)) + 2) rfl (by omega) ?_
  refine V_casti (y := nI n) (show upd (upd (upd (upd (X 11) (50 + 15 * j + 3 + 2 * n) x) (50 + 15 * j + 3 + 2 * n + 1) am) (50 + 15 * j + 3 + 2 * n + 2) y) (50 + 15 * j + 3 + 2 * n + 3) (-am) (50 + 15 * j + 2) = nI n from by rw [upd_n (by omega), upd_n (by omega), upd_n (by omega), upd_n (by omega)]; exact hn) ?_
  refine V_iconst 2 dX8_adds_78 (by decide) ?_
  refine V_iadd dX8_adds_79 ?_
  refine V_casti (y := nI (n + 2)) (nI_add n 2) ?_
  refine V_iast dX8_adds_80 2 rfl rfl ((50 + (15 * j)) + 2) rfl (by omega) (ws' := cG w a th Z sn gs ps (uX X 11 (upd (upd (upd (upd (upd (X 11) (((50 + (15 * j)) + 3) + (2 * n)) x) ((((50 + (15 * j)) + 3) + (2 * n)) + 1) am) ((((50 + (15 * j)) + 3) + (2 * n)) + 2) y) ((((50 + (15 * j)) + 3) + (2 * n)) + 3) (-am)) ((50 + (15 * j)) + 2) (nI (n + 2))))) rfl ?_
  refine V_aload_n dX8_adds_81 0 rfl ?_
  refine V_get dX8_adds_82 fX8_76 0 rfl rfl ?_
  refine V_iload dX8_adds_85 5 rfl ?_
  refine V_iconst 2 dX8_adds_87 (by decide) ?_
  refine V_iadd dX8_adds_88 ?_
  refine V_casti (y := nI ((50 + (15 * j)) + 2)) (nI_add (50 + (15 * j)) 2) ?_
  refine V_iald dX8_adds_89 2 rfl rfl ((50 + (15 * j)) + 2) rfl (by omega) ?_
  refine V_casti (y := nI (n + 2)) upd_s ?_
  exact V_iret dX8_adds_90 rfl (nb rfl) (nb rfl) ⟨rfl, rfl⟩
