/-! 25: the reference: text, fault -/
def tx0 (Z : ZT) (f : Nat → Int32) : MP := (0, Z.2.2.2.1, Z.2.2.2.2.1, Z.2.2.2.2.2.1, 0, Z.2.2.2.2.2.2.2.1, Z.2.2.2.2.2.2.2.2.1, Z.2.2.2.2.2.2.2.2.2, cps f 0 (fun _ => 0) 500)
def mTx (t : Nat → Int32) (Z : ZT) (f : Nat → Int32) : Bool × MP := mW t Z.1 (mGo t Z.1 (tx0 Z f))
def zOf (n : Nat) (P : MP) : ZT := (0, n, P.1, P.2.1, P.2.2.1, P.2.2.2.1, P.2.2.2.2.1, P.2.2.2.2.2.1, P.2.2.2.2.2.2.1, P.2.2.2.2.2.2.2.1)
def txN (N : Nat → Int32) (P : MP) : Nat → Int32 := cps N 0 P.2.2.2.2.2.2.2.2 500
def txA (N : Nat → Int32) (r : Bool × MP) : Int32 := if r.1 = true then txN N r.2 0 + txN N r.2 1 else (-1) - nI r.2.2.2.2.2.2.1
theorem tx0_z {t : Nat → Int32} {Z : ZT} {f : Nat → Int32} {k : Nat} (h : k < 500) : rdO (mGo t Z.1 (tx0 Z f)) k = 0 := by
  show cps f 0 (fun _ => 0) 500 k = 0
  rw [cps_i (by omega) (by omega)]
def txX (X : Nat → Nat → Int32) (r : Bool × MP) : Nat → Nat → Int32 := if r.1 = true then uX (uX X 11 (txN (X 11) r.2)) 12 r.2.2.2.2.2.2.2.2.2 else uX X 12 r.2.2.2.2.2.2.2.2.2

set_option maxRecDepth 100000 in
set_option maxHeartbeats 4000000 in
theorem lp_M_text2 (w : vWd) (a : Nat → Nat) (th : Int32) (Z : ZT) (sn gs ps : Nat) (X : Nat → Nat → Int32) (hb : (mTx (X 1) Z (X 12)).1 = true) : ∀ (m : Nat) (k : Nat), (501 ≤ k + m) → (k ≤ 500) → V w mX8_text (vc w 7 0 0 (qE (some (.int (txA (X 11) (mTx (X 1) Z (X 12))))) (cG w a 0 (zOf Z.1 (mTx (X 1) Z (X 12)).2) (if (mTx (X 1) Z (X 12)).1 = true then 0 else sn) gs ps (txX X (mTx (X 1) Z (X 12)))))) 0 0 70 [(0, .ref (a 0)), (1, .int (nI k))] [] (c9 w a 0 0 Z.1 sn gs ps (uX X 11 (cps (X 11) 0 (mTx (X 1) Z (X 12)).2.2.2.2.2.2.2.2.2 k)) ((mTx (X 1) Z (X 12)).2)) := by
  intro m
  induction m with
  | zero =>
    intro k h1 h2
    exact absurd h1 (by omega)
  | succ m ih =>
    intro k h1 h2
    refine V_iload_n dX8_text_70 1 rfl ?_
    refine V_sipush 500 dX8_text_71 (by decide) ?_
    refine V_icmp_ge_n k 500 95 dX8_text_74 (by decide) (by omega) (by omega) (fun zc1 => ?_) (fun zc1 => ?_)
    · obtain rfl : k = 500 := by omega
      refine V_aload_n dX8_text_95 0 rfl ?_
      refine V_iconst 0 dX8_text_96 (by decide) ?_
      refine V_put dX8_text_97 pX8_160 0 rfl rfl rfl rfl (ws' := c9 w a 0 0 Z.1 0 gs ps (uX X 11 (cps (X 11) 0 (mTx (X 1) Z (X 12)).2.2.2.2.2.2.2.2.2 500)) ((mTx (X 1) Z (X 12)).2)) rfl ?_
      refine V_aload_n dX8_text_100 0 rfl ?_
      refine V_get dX8_text_101 fX8_76 0 rfl rfl ?_
      refine V_iconst 0 dX8_text_104 (by decide) ?_
      refine V_iald dX8_text_105 2 rfl rfl 0 rfl (by omega) ?_
      refine V_aload_n dX8_text_106 0 rfl ?_
      refine V_get dX8_text_107 fX8_76 0 rfl rfl ?_
      refine V_iconst 1 dX8_text_110 (by decide) ?_
      refine V_iald dX8_text_111 2 rfl rfl 1 rfl (by omega) ?_
      refine V_iadd dX8_text_112 ?_
      exact V_iret dX8_text_113 rfl (nb rfl) (nb rfl) ⟨by rw [txA, if_pos hb] <;> rfl, by rw [txX, if_pos hb, if_pos hb] <;> rfl⟩
    · refine V_aload_n dX8_text_77 0 rfl ?_
      refine V_get dX8_text_78 fX8_76 0 rfl rfl ?_
      refine V_iload_n dX8_text_81 1 rfl ?_
      refine V_aload_n dX8_text_82 0 rfl ?_
      refine V_get dX8_text_83 fX8_79 0 rfl rfl ?_
      refine V_iload_n dX8_text_86 1 rfl ?_
      refine V_iald dX8_text_87 3 rfl rfl k rfl (by omega) ?_
      refine V_iast dX8_text_88 2 rfl rfl k rfl (by omega) (ws' := c9 w a 0 0 Z.1 sn gs ps (uX X 11 (upd (cps (X 11) 0 (mTx (X 1) Z (X 12)).2.2.2.2.2.2.2.2.2 k) k ((((mTx (X 1) Z (X 12)).2).2.2.2.2.2.2.2.2) k))) ((mTx (X 1) Z (X 12)).2)) rfl ?_
      refine V_iinc (nI (k + 1)) dX8_text_89 1 rfl (nI_i1 k) rfl (L' := [(0, .ref (a 0)), (1, .int (nI (k + 1)))]) rfl ?_
      refine V_goto 70 dX8_text_92 (by decide) ?_
      refine V_ws (ws' := c9 w a 0 0 Z.1 sn gs ps (uX X 11 (cps (X 11) 0 (mTx (X 1) Z (X 12)).2.2.2.2.2.2.2.2.2 (k + 1))) ((mTx (X 1) Z (X 12)).2)) (by rw [← cps_s, Nat.zero_add]) ?_
      exact ih (k + 1) (by omega) (by omega)

set_option maxRecDepth 100000 in
set_option maxHeartbeats 4000000 in
theorem lp_M_text1 (w : vWd) (a : Nat → Nat) (th : Int32) (Z : ZT) (sn gs ps : Nat) (X : Nat → Nat → Int32) (hT : Z.1 ≤ 640) : ∀ (m : Nat) (k : Nat), (501 ≤ k + m) → (k ≤ 500) → V w mX8_text (vc w 7 0 0 (qE (some (.int (txA (X 11) (mTx (X 1) Z (X 12))))) (cG w a 0 (zOf Z.1 (mTx (X 1) Z (X 12)).2) (if (mTx (X 1) Z (X 12)).1 = true then 0 else sn) gs ps (txX X (mTx (X 1) Z (X 12)))))) 0 0 30 [(0, .ref (a 0)), (1, .int (nI k))] [] (cM w a 0 0 Z.1 0 Z.2.2.2.1 Z.2.2.2.2.1 Z.2.2.2.2.2.1 0 Z.2.2.2.2.2.2.2.1 Z.2.2.2.2.2.2.2.2.1 sn Z.2.2.2.2.2.2.2.2.2 gs ps (uX X 12 (cps (X 12) 0 (fun _ => 0) k))) := by
  intro m
  induction m with
  | zero =>
    intro k h1 h2
    exact absurd h1 (by omega)
  | succ m ih =>
    intro k h1 h2
    refine V_iload_n dX8_text_30 1 rfl ?_
    refine V_sipush 500 dX8_text_31 (by decide) ?_
    refine V_icmp_ge_n k 500 50 dX8_text_34 (by decide) (by omega) (by omega) (fun zc1 => ?_) (fun zc1 => ?_)
    · obtain rfl : k = 500 := by omega
      refine V_ws (ws' := c9 w a 0 0 Z.1 sn gs ps X (tx0 Z (X 12))) rfl ?_
      refine V_aload_n dX8_text_50 0 rfl ?_
      refine V_selfE (ws' := c9 w a 0 0 Z.1 sn gs ps X (mGo (X 1) Z.1 (tx0 Z (X 12)))) dX8_text_51 lX8_119 (d_M_go w a 0 0 Z.1 sn gs ps X (tx0 Z (X 12)) hT (Nat.zero_le _)) rfl rfl 0 rfl rfl rfl rfl ?_
      refine V_aload_n dX8_text_54 0 rfl ?_
      refine V_selfE (ws' := c9 w a 0 0 Z.1 sn gs ps X (mTx (X 1) Z (X 12)).2) dX8_text_55 lX8_157 (d_M_readWhole w a 0 0 Z.1 sn gs ps X (mGo (X 1) Z.1 (tx0 Z (X 12))) (tx0_z (by omega)) (tx0_z (by omega)) (fun k k1 k2 => tx0_z k2) hT (mGo_le (Nat.zero_le _)) mGo_so) rfl rfl 0 rfl rfl rfl rfl ?_
      refine V_ifne_b 68 dX8_text_58 (by decide) (fun zc2 => ?_) (fun zc2 => ?_)
      · have hb : (mTx (X 1) Z (X 12)).1 = true := zc2
        refine V_iconst 0 dX8_text_68 (by decide) ?_
        refine V_istore_n dX8_text_69 rfl (L' := [(0, .ref (a 0)), (1, .int 0)]) rfl ?_
        have hx := lp_M_text2 w a th Z sn gs ps X hb 501 0 (by omega) (by omega)
        rw [cps_0] at hx
        exact hx
      · have hb : (mTx (X 1) Z (X 12)).1 = false := zc2
        refine V_iconst (-1) dX8_text_61 (by decide) ?_
        refine V_aload_n dX8_text_62 0 rfl ?_
        refine V_get dX8_text_63 fX8_67 0 rfl rfl ?_
        refine V_isub dX8_text_66 ?_
        exact V_iret dX8_text_67 rfl (nb rfl) (nb rfl) ⟨by rw [txA, if_neg (by rw [hb]; decide)] <;> rfl, by rw [txX, if_neg (by rw [hb]; decide), if_neg (by rw [hb]; decide)] <;> rfl⟩
    · refine V_aload_n dX8_text_37 0 rfl ?_
      refine V_get dX8_text_38 fX8_79 0 rfl rfl ?_
      refine V_iload_n dX8_text_41 1 rfl ?_
      refine V_iconst 0 dX8_text_42 (by decide) ?_
      refine V_iast dX8_text_43 3 rfl rfl k rfl (by omega) (ws' := cM w a 0 0 Z.1 0 Z.2.2.2.1 Z.2.2.2.2.1 Z.2.2.2.2.2.1 0 Z.2.2.2.2.2.2.2.1 Z.2.2.2.2.2.2.2.2.1 sn Z.2.2.2.2.2.2.2.2.2 gs ps (uX X 12 (upd (cps (X 12) 0 (fun _ => 0) k) k 0))) rfl ?_
      refine V_iinc (nI (k + 1)) dX8_text_44 1 rfl (nI_i1 k) rfl (L' := [(0, .ref (a 0)), (1, .int (nI (k + 1)))]) rfl ?_
      refine V_goto 30 dX8_text_47 (by decide) ?_
      refine V_ws (ws' := cM w a 0 0 Z.1 0 Z.2.2.2.1 Z.2.2.2.2.1 Z.2.2.2.2.2.1 0 Z.2.2.2.2.2.2.2.1 Z.2.2.2.2.2.2.2.2.1 sn Z.2.2.2.2.2.2.2.2.2 gs ps (uX X 12 (cps (X 12) 0 (fun _ => 0) (k + 1)))) (by rw [← cps_s, Nat.zero_add]) ?_
      exact ih (k + 1) (by omega) (by omega)

set_option maxRecDepth 100000 in
set_option maxHeartbeats 4000000 in
theorem e_M_text (w : vWd) (a : Nat → Nat) (th : Int32) (Z : ZT) (sn gs ps : Nat) (X : Nat → Nat → Int32) (hT : Z.1 ≤ 640) : Ct w mX8_text 7 0 0 [.ref (a 0)] (cG w a th Z sn gs ps X) (qE (some (.int (txA (X 11) (mTx (X 1) Z (X 12))))) (cG w a 0 (zOf Z.1 (mTx (X 1) Z (X 12)).2) (if (mTx (X 1) Z (X 12)).1 = true then 0 else sn) gs ps (txX X (mTx (X 1) Z (X 12))))) := by
  refine Ct.of (L := [(0, .ref (a 0))]) (by decide) rfl rfl ?_
  refine V_ws (ws' := cM w a th Z.1 Z.2.1 Z.2.2.1 Z.2.2.2.1 Z.2.2.2.2.1 Z.2.2.2.2.2.1 Z.2.2.2.2.2.2.1 Z.2.2.2.2.2.2.2.1 Z.2.2.2.2.2.2.2.2.1 sn Z.2.2.2.2.2.2.2.2.2 gs ps X) rfl ?_
  refine V_aload_n dX8_text_0 0 rfl ?_
  refine V_iconst 0 dX8_text_1 (by decide) ?_
  refine V_put dX8_text_2 pX8_1 0 rfl rfl rfl rfl (ws' := cM w a 0 Z.1 Z.2.1 Z.2.2.1 Z.2.2.2.1 Z.2.2.2.2.1 Z.2.2.2.2.2.1 Z.2.2.2.2.2.2.1 Z.2.2.2.2.2.2.2.1 Z.2.2.2.2.2.2.2.2.1 sn Z.2.2.2.2.2.2.2.2.2 gs ps X) rfl ?_
  refine V_aload_n dX8_text_5 0 rfl ?_
  refine V_aload_n dX8_text_6 0 rfl ?_
  refine V_get dX8_text_7 fX8_11 0 rfl rfl ?_
  refine V_put dX8_text_10 pX8_18 0 rfl rfl rfl rfl (ws' := cM w a 0 Z.1 Z.1 Z.2.2.1 Z.2.2.2.1 Z.2.2.2.2.1 Z.2.2.2.2.2.1 Z.2.2.2.2.2.2.1 Z.2.2.2.2.2.2.2.1 Z.2.2.2.2.2.2.2.2.1 sn Z.2.2.2.2.2.2.2.2.2 gs ps X) rfl ?_
  refine V_aload_n dX8_text_13 0 rfl ?_
  refine V_iconst 0 dX8_text_14 (by decide) ?_
  refine V_put dX8_text_15 pX8_11 0 rfl rfl rfl rfl (ws' := cM w a 0 0 Z.1 Z.2.2.1 Z.2.2.2.1 Z.2.2.2.2.1 Z.2.2.2.2.2.1 Z.2.2.2.2.2.2.1 Z.2.2.2.2.2.2.2.1 Z.2.2.2.2.2.2.2.2.1 sn Z.2.2.2.2.2.2.2.2.2 gs ps X) rfl ?_
  refine V_aload_n dX8_text_18 0 rfl ?_
  refine V_iconst 0 dX8_text_19 (by decide) ?_
  refine V_put dX8_text_20 pX8_64 0 rfl rfl rfl rfl (ws' := cM w a 0 0 Z.1 Z.2.2.1 Z.2.2.2.1 Z.2.2.2.2.1 Z.2.2.2.2.2.1 0 Z.2.2.2.2.2.2.2.1 Z.2.2.2.2.2.2.2.2.1 sn Z.2.2.2.2.2.2.2.2.2 gs ps X) rfl ?_
  refine V_aload_n dX8_text_23 0 rfl ?_
  refine V_iconst 0 dX8_text_24 (by decide) ?_
  refine V_put dX8_text_25 pX8_21 0 rfl rfl rfl rfl (ws' := cM w a 0 0 Z.1 0 Z.2.2.2.1 Z.2.2.2.2.1 Z.2.2.2.2.2.1 0 Z.2.2.2.2.2.2.2.1 Z.2.2.2.2.2.2.2.2.1 sn Z.2.2.2.2.2.2.2.2.2 gs ps X) rfl ?_
  refine V_iconst 0 dX8_text_28 (by decide) ?_
  refine V_istore_n dX8_text_29 rfl (L' := [(0, .ref (a 0)), (1, .int 0)]) rfl ?_
  have hx := lp_M_text1 w a th Z sn gs ps X hT 501 0 (by omega) (by omega)
  rw [cps_0] at hx
  exact hx

set_option maxRecDepth 100000 in
set_option maxHeartbeats 4000000 in
theorem e_M_fault (w : vWd) (a : Nat → Nat) (th : Int32) (Z : ZT) (sn gs ps : Nat) (X : Nat → Nat → Int32)  : Ct w mX8_fault 0 0 0 [.ref (a 0)] (cG w a th Z sn gs ps X) (qE (some (.int (nI Z.2.2.2.2.2.2.1))) (cG w a 0 Z sn gs ps X)) := by
  refine Ct.of (L := [(0, .ref (a 0))]) (by decide) rfl rfl ?_
  refine V_aload_n dX8_fault_0 0 rfl ?_
  refine V_iconst 0 dX8_fault_1 (by decide) ?_
  refine V_put dX8_fault_2 pX8_1 0 rfl rfl rfl rfl (ws' := cG w a 0 Z sn gs ps X) rfl ?_
  refine V_aload_n dX8_fault_5 0 rfl ?_
  refine V_get dX8_fault_6 fX8_64 0 rfl rfl ?_
  exact V_iret dX8_fault_9 rfl (nb rfl) (nb rfl) ⟨rfl, rfl⟩

set_option maxRecDepth 100000 in
set_option maxHeartbeats 4000000 in
theorem e_M_thrown (w : vWd) (a : Nat → Nat) (th : Int32) (Z : ZT) (sn gs ps : Nat) (X : Nat → Nat → Int32)  : Ct w mX8_thrown 0 0 0 [.ref (a 0)] (cG w a th Z sn gs ps X) (qE (some (.int th)) (cG w a th Z sn gs ps X)) := by
  refine Ct.of (L := [(0, .ref (a 0))]) (by decide) rfl rfl ?_
  refine V_aload_n dX8_thrown_0 0 rfl ?_
  refine V_get dX8_thrown_1 fX8_1 0 rfl rfl ?_
  exact V_iret dX8_thrown_4 rfl (nb rfl) (nb rfl) ⟨rfl, rfl⟩
