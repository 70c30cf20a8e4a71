/-! 44: CashDeriver: text -/
/-- the first n journals settled -/
def tSt (B : BP) (G : GP) : Nat → GP × BP
  | 0 => (G, B)
  | n + 1 => ((stl ((tSt B G n).2.2.2.2 n) (tSt B G n).1).1, setJ (tSt B G n).2 n (stl ((tSt B G n).2.2.2.2 n) (tSt B G n).1).2)
theorem tSt_a (B : BP) (G : GP) : ∀ n, (tSt B G n).2.1 = B.1
  | 0 => rfl
  | n + 1 => by rw [tSt]; exact tSt_a B G n
theorem tSt_j (B : BP) (G : GP) : ∀ n, (tSt B G n).2.2.1 = B.2.1
  | 0 => rfl
  | n + 1 => by rw [tSt]; exact tSt_j B G n
theorem tSt_n (B : BP) (G : GP) : ∀ {n k : Nat}, n ≤ k → (tSt B G n).2.2.2.2 k = B.2.2.2 k
  | 0, _, _ => rfl
  | n + 1, k, h => by
    rw [tSt]
    show uX (tSt B G n).2.2.2.2 n _ k = _
    rw [uX_n (by omega)]
    exact tSt_n B G (by omega)
theorem tSt_ok {B : BP} {G : GP} (hB : okB B) (h2 : ∀ n, n < B.2.1 → 2 ≤ (B.2.2.2 n).2.1) : ∀ {n : Nat}, n ≤ B.2.1 → okB (tSt B G n).2
  | 0, _ => hB
  | n + 1, h => by
    rw [tSt]
    have h30 := hB.2.1
    refine okB_setJ (tSt_ok hB h2 (by omega)) (okJ_stl ?_ ?_ _)
    · rw [tSt_n B G (Nat.le_refl n)]; exact hB.2.2 n (by omega)
    · rw [tSt_n B G (Nat.le_refl n)]; exact h2 n (by omega)
theorem tIn_0 (T : TP) (hT : T.1 ≤ 640) : tIn T 0 = true := by
  have h : (0 : Int32) ≤ nI T.1 := (nI_leI (a := 0) (by omega) (by omega)).mpr (Nat.zero_le _)
  simp only [tIn, Bool.and_eq_true, decide_eq_true_eq, Bool.not_eq_true', decide_eq_false_iff_not]
  exact ⟨by decide, h⟩
theorem v_sw (d : Nat × va_E) (p q r s t y z : va_W) : (d :: (p ++ (q ++ (r ++ (s ++ (t ++ (y ++ z))))))).Perm (d :: (p ++ (q ++ (r ++ (s ++ (t ++ (z ++ y))))))) :=
  List.Perm.cons d (List.Perm.append_left p (List.Perm.append_left q (List.Perm.append_left r (List.Perm.append_left s (List.Perm.append_left t List.perm_append_comm)))))

set_option maxRecDepth 100000 in
set_option maxHeartbeats 4000000 in
theorem lp_D_text (w : vWd) (D : DW) (b c : DB) (T : TP) (P : RP) (G : GP) (Q : SP) (A : AP) (B E : BP) (x : Int32) (y : Nat) (hB : okB B) (h2 : ∀ n, n < B.2.1 → 2 ≤ (B.2.2.2 n).2.1) : ∀ (m : Nat) (n : Nat), (n + m = B.2.1 + 1) → (n ≤ B.2.1) → V w mX7_text (vc w 8 0 0 (qE (some (.int (nI (B.1 + B.2.1)))) (cD w D b c T P (tSt B G B.2.1).1 Q (0, A.2) (tSt B G B.2.1).2 E))) 0 0 55 [(0, .ref (D.1)), (1, .int x), (2, .ref (y)), (3, .int (nI n))] [] (cD w D b c T P ((tSt B G n).1) Q A ((tSt B G n).2) E) := by
  intro m
  induction m with
  | zero =>
    intro n h1 hl
    exact absurd h1 (by omega)
  | succ m ih =>
    intro n h1 hl
    have h30 := hB.2.1
    have h12 := hB.1
    refine V_iload_n dX7_text_55 3 rfl ?_
    refine V_aload_n dX7_text_56 0 rfl ?_
    refine V_get dX7_text_57 fX7_49 0 rfl rfl ?_
    refine V_partR dX7_text_60 lX7_78 _ (c_B_journals w b.1 b.2 ((tSt B G n).2)) D_B rfl rfl 0 rfl rfl rfl rfl ?_
    refine V_casti (y := nI B.2.1) (by rw [tSt_j]) ?_
    refine V_icmp_ge_n n B.2.1 84 dX7_text_63 (by decide) (by omega) (by omega) (fun zc1 => ?_) (fun zc1 => ?_)
    · refine V_aload_n dX7_text_84 0 rfl ?_
      refine V_get dX7_text_85 fX7_42 0 rfl rfl ?_
      refine V_partE (ws' := cD w D b c T P ((tSt B G n).1) Q (0, A.2) ((tSt B G n).2) E) dX7_text_88 lX7_89 _ (c_A_clear w D.2.2.2.2.2.2 A) D_A (D_A).symm rfl rfl 0 rfl rfl rfl rfl ?_
      refine V_aload_n dX7_text_91 0 rfl ?_
      refine V_get dX7_text_92 fX7_49 0 rfl rfl ?_
      refine V_partR dX7_text_95 lX7_92 _ (c_B_accounts w b.1 b.2 ((tSt B G n).2)) D_B rfl rfl 0 rfl rfl rfl rfl ?_
      refine V_casti (y := nI B.1) (by rw [tSt_a]) ?_
      refine V_aload_n dX7_text_98 0 rfl ?_
      refine V_get dX7_text_99 fX7_49 0 rfl rfl ?_
      refine V_partR dX7_text_102 lX7_78 _ (c_B_journals w b.1 b.2 ((tSt B G n).2)) D_B rfl rfl 0 rfl rfl rfl rfl ?_
      refine V_casti (y := nI B.2.1) (by rw [tSt_j]) ?_
      refine V_iadd dX7_text_105 ?_
      refine V_casti (y := nI (B.1 + B.2.1)) (nI_add B.1 B.2.1) ?_
      refine V_iret dX7_text_106 rfl (nb rfl) (nb rfl) ?_
      obtain rfl : n = B.2.1 := by omega
      exact ⟨rfl, rfl⟩
    · refine V_aload_n dX7_text_66 0 rfl ?_
      refine V_aload_n dX7_text_67 0 rfl ?_
      refine V_get dX7_text_68 fX7_49 0 rfl rfl ?_
      refine V_iload_n dX7_text_71 3 rfl ?_
      refine V_partR dX7_text_72 lX7_81 _ (c_B_find_n w b.1 b.2 ((tSt B G n).2) (tSt_ok hB h2 (by omega)) n (by rw [tSt_j]; omega)) D_B rfl rfl 0 rfl rfl rfl rfl ?_
      refine V_partE (ws' := cD w D b c T P ((stl (((tSt B G n).2).2.2.2 n) ((tSt B G n).1)).1) Q A (setJ ((tSt B G n).2) n (stl (((tSt B G n).2).2.2.2 n) ((tSt B G n).1)).2) E) dX7_text_75 lX7_85 _ (c_D_settle w D b c ((tSt B G n).1) (b.2 n) (((tSt B G n).2).2.2.2 n) (by rw [tSt_n B G (Nat.le_refl n)]; exact hB.2.2 n (by omega)) (by rw [tSt_n B G (Nat.le_refl n)]; exact h2 n (by omega))) (D_S (by omega)) (D_Sb (by omega)) rfl rfl 0 rfl rfl rfl rfl ?_
      refine V_iinc (nI (n + 1)) dX7_text_78 3 rfl (nI_i1 n) rfl (L' := [(0, .ref (D.1)), (1, .int x), (2, .ref (y)), (3, .int (nI (n + 1)))]) rfl ?_
      refine V_goto 55 dX7_text_81 (by decide) ?_
      have hi := ih (n + 1) (by omega) (by omega)
      rw [tSt] at hi
      exact hi

/-- a text read: the answer, and all that changes -/
def rdT (T : TP) (P : RP) (E : BP) := rdW T P E

set_option maxRecDepth 100000 in
set_option maxHeartbeats 4000000 in
theorem c_D_text (w : vWd) (D : DW) (b c : DB) (T : TP) (P : RP) (G : GP) (Q : SP) (A : AP) (B E : BP) (hT : T.1 ≤ 640) (hE : okB E) (hR : okB (rdW T P E).2.2) (h2 : (rdW T P E).1 = true → ∀ n, n < (rdW T P E).2.2.2.1 → 2 ≤ ((rdW T P E).2.2.2.2.2 n).2.1) : Ct w mX7_text 8 0 0 [.ref (D.1)] (cD w D b c T P G Q A B E) (qE (some (.int (if (rdW T P E).1 = true then nI ((rdW T P E).2.2.1 + (rdW T P E).2.2.2.1) else -1 - nI (rdW T P E).2.1.2.2.2.2.2.2))) (if (rdW T P E).1 = true then cD w D c b (0, T.2) (rdW T P E).2.1 (tSt (rdW T P E).2.2 G (rdW T P E).2.2.2.1).1 Q (0, A.2) (tSt (rdW T P E).2.2 G (rdW T P E).2.2.2.1).2 B else cD w D b c (0, T.2) (rdW T P E).2.1 G Q A B (rdW T P E).2.2)) := by
  refine Ct.of (L := [(0, .ref (D.1))]) (by decide) rfl rfl ?_
  refine V_aload_n dX7_text_0 0 rfl ?_
  refine V_get dX7_text_1 fX7_21 0 rfl rfl ?_
  refine V_aload_n dX7_text_4 0 rfl ?_
  refine V_get dX7_text_5 fX7_53 0 rfl rfl ?_
  refine V_partE (ws' := cD w D b c T ((rdW T P E).2.1) G Q A B ((rdW T P E).2.2)) dX7_text_8 lX7_71 _ (c_R_read w D.2.2.1 D.2.1 P T c.1 c.2 E hT hE) D_RE D_RE.symm rfl rfl 0 rfl rfl rfl rfl ?_
  refine V_istore_n dX7_text_11 rfl (L' := [(0, .ref (D.1)), (1, .int (bi ((rdW T P E).1)))]) rfl ?_
  refine V_aload_n dX7_text_12 0 rfl ?_
  refine V_get dX7_text_13 fX7_12 0 rfl rfl ?_
  refine V_iconst 0 dX7_text_16 (by decide) ?_
  refine V_partE (ws' := cD w D b c (if tIn T 0 then ((0 : Int32).toNatClampNeg, T.2) else T) ((rdW T P E).2.1) G Q A B ((rdW T P E).2.2)) dX7_text_17 lX7_67 _ (c_T_cut w D.2.1 T 0 hT) D_T D_T.symm rfl rfl 0 rfl rfl rfl rfl ?_
  refine V_ws (ws' := cD w D b c (0, T.2) ((rdW T P E).2.1) G Q A B ((rdW T P E).2.2)) (by rw [if_pos (tIn_0 T hT)]; rfl) ?_
  refine V_pop dX7_text_20 rfl ?_
  refine V_iload_n dX7_text_21 1 rfl ?_
  refine V_ifne_b 35 dX7_text_22 (by decide) (fun zc1 => ?_) (fun zc1 => ?_)
  · refine V_aload_n dX7_text_35 0 rfl ?_
    refine V_get dX7_text_36 fX7_49 0 rfl rfl ?_
    refine V_astore_n dX7_text_39 rfl (L' := [(0, .ref (D.1)), (1, .int (bi ((rdW T P E).1))), (2, .ref (b.1 0))]) rfl ?_
    refine V_aload_n dX7_text_40 0 rfl ?_
    refine V_aload_n dX7_text_41 0 rfl ?_
    refine V_get dX7_text_42 fX7_53 0 rfl rfl ?_
    refine V_put dX7_text_45 pX7_49 0 rfl rfl rfl rfl (ws' := (D.1, .inr (7, [.ref (D.2.1 0), .ref D.2.2.1, .ref (D.2.2.2.1 0), .ref (D.2.2.2.2.1 0), .ref (D.2.2.2.2.2.2 0), .ref (c.1 0), .ref (c.1 0)])) :: (xT w D (0, T.2) ++ (xR D (rdW T P E).2.1 ++ (xP w D G ++ (xQ w D Q ++ (xA w D A ++ (xB w b B ++ xB w c (rdW T P E).2.2))))))) rfl ?_
    refine V_aload_n dX7_text_48 0 rfl ?_
    refine V_aload_n dX7_text_49 2 rfl ?_
    refine V_put dX7_text_50 pX7_53 0 rfl rfl rfl rfl (ws' := (D.1, .inr (7, [.ref (D.2.1 0), .ref D.2.2.1, .ref (D.2.2.2.1 0), .ref (D.2.2.2.2.1 0), .ref (D.2.2.2.2.2.2 0), .ref (c.1 0), .ref (b.1 0)])) :: (xT w D (0, T.2) ++ (xR D (rdW T P E).2.1 ++ (xP w D G ++ (xQ w D Q ++ (xA w D A ++ (xB w b B ++ xB w c (rdW T P E).2.2))))))) rfl ?_
    refine V.perm (ws' := cD w D c b (0, T.2) (rdW T P E).2.1 G Q A (rdW T P E).2.2 B) (v_sw (dO D c b) (xT w D (0, T.2)) (xR D (rdW T P E).2.1) (xP w D G) (xQ w D Q) (xA w D A) (xB w b B) (xB w c (rdW T P E).2.2)) ?_
    refine V_iconst 0 dX7_text_53 (by decide) ?_
    refine V_istore_n dX7_text_54 rfl (L' := [(0, .ref D.1), (1, .int (bi (rdW T P E).1)), (2, .ref (b.1 0)), (3, .int 0)]) rfl ?_
    have hw : (rdW T P E).1 = true := by assumption
    have hl := lp_D_text w D c b (0, T.2) (rdW T P E).2.1 G Q A (rdW T P E).2.2 B (bi (rdW T P E).1) (b.1 0) hR (h2 hw) ((rdW T P E).2.2.2.1 + 1) 0 (by omega) (Nat.zero_le _)
    rw [if_pos hw, if_pos hw]
    exact hl
  · refine V_iconst (-1) dX7_text_25 (by decide) ?_
    refine V_aload_n dX7_text_26 0 rfl ?_
    refine V_get dX7_text_27 fX7_21 0 rfl rfl ?_
    refine V_partR dX7_text_30 lX7_75 _ (c_R_faultPlace w D.2.2.1 D.2.1 ((rdW T P E).2.1) (0, T.2)) D_R rfl rfl 0 rfl rfl rfl rfl ?_
    refine V_isub dX7_text_33 ?_
    refine V_iret dX7_text_34 rfl (nb rfl) (nb rfl) ?_
    have hw : ¬ (rdW T P E).1 = true := by simp_all
    exact ⟨by rw [if_neg hw], by rw [if_neg hw]⟩
