/-! 35: CashDeriver$Tracer: shares -/
theorem cQ_set {w : vWd} {a sr : Nat → Nat} {Q : SP} {X : va_W} {i : Nat} {f : Nat → Int32} (hi : i < 31) : (cQ w a sr Q ++ X).set (4 + i) (sr i, .inl (vA w 0, 12, .inl f)) = cQ w a sr (Q.1, Q.2.1, Q.2.2.1, Q.2.2.2.1, uX Q.2.2.2.2 i f) ++ X := by
  have h1 : 4 + i < (cQ w a sr Q).length := by simp [cQ, cQ5]; omega
  rw [List.set_append_left _ _ h1]
  congr 1
  show (cQ5 w a sr Q ++ _).set (4 + i) _ = cQ5 w a sr Q ++ _
  rw [List.set_append_right _ _ (by simp [cQ5])]
  congr 1
  rw [show 4 + i - (cQ5 w a sr Q).length = i by simp [cQ5]]
  apply List.ext_getElem?
  intro k
  rw [List.getElem?_set]
  by_cases hk : i = k
  · subst hk
    simp [hi, uX]
  · rw [if_neg hk]
    by_cases h2 : k < 31
    · simp [h2, uX, show ¬ k = i from fun e => hk e.symm]
    · simp [h2]
theorem rb_f {w : vWd} {R : va_W} {ab : Nat → Nat} {aj : Nat → Nat → Nat} {B : BP} {n : Nat} (hn : n < 30) : (R ++ cB w ab aj B).Perm (cJ w (aj n) (B.2.2.2 n) ++ ((cB5 w ab aj B ++ cJx w aj B.2.2.2 n) ++ R)) := by
  have h := cB_focus (w := w) (ab := ab) (aj := aj) (B := B) hn
  rw [← List.append_assoc]
  exact List.perm_append_comm.trans (h.append_right R)

def gSh (B : BP) (g : Nat → Nat) (S : Nat → Nat → Int32) (na : Nat) (x : Int32) : Nat → Nat → Nat → Int32
  | 0 => S
  | n + 1 => uX (gSh B g S na x n) n (upd (gSh B g S na x n n) na (jNet (B.2.2.2 (g n)) x (B.2.2.2 (g n)).2.1))

set_option maxRecDepth 100000 in
set_option maxHeartbeats 4000000 in
theorem lp_S_shares (w : vWd) (a sr : Nat → Nat) (Q : SP) (ab : Nat → Nat) (aj : Nat → Nat → Nat) (B : BP) (hB : okB B) (g : Nat → Nat) (x : Int32) (hq1 : Q.1 ≤ 30) (hq2 : Q.2.1 < 12) (hg : ∀ n, n < Q.1 → Q.2.2.1 n = nI (g n) ∧ g n < B.2.1) : ∀ (m : Nat) (n : Nat), (Q.1 + 1 ≤ n + m) → (n ≤ Q.1) → V w mX6_gatherShares (vc w 3 0 0 (qE none (cQ w a sr (Q.1, Q.2.1, Q.2.2.1, Q.2.2.2.1, gSh B g Q.2.2.2.2 Q.2.1 x Q.1) ++ cB w ab aj B))) 0 0 2 [(0, .ref (a 0)), (1, .ref (ab 0)), (2, .int x), (3, .int (nI n))] [] (cQ w a sr (Q.1, Q.2.1, Q.2.2.1, Q.2.2.2.1, gSh B g Q.2.2.2.2 Q.2.1 x n) ++ cB w ab aj B) := by
  intro m
  induction m with
  | zero =>
    intro n h1 h2
    exact absurd h1 (by omega)
  | succ m ih =>
    intro n h1 h2
    obtain ⟨hb1, hb2, hb3⟩ := id hB
    refine V_iload_n dX6_gatherShares_2 3 rfl ?_
    refine V_aload_n dX6_gatherShares_3 0 rfl ?_
    refine V_get dX6_gatherShares_4 fX6_23 0 rfl rfl ?_
    refine V_icmp_ge_n n Q.1 54 dX6_gatherShares_7 (by decide) (by omega) (by omega) (fun zc1 => ?_) (fun zc1 => ?_)
    · exact V_vret dX6_gatherShares_54 rfl (nb rfl) (nb rfl) ⟨rfl, by rw [show n = Q.1 by omega]⟩
    · refine V_aload_n dX6_gatherShares_10 1 rfl ?_
      refine V_aload_n dX6_gatherShares_11 0 rfl ?_
      refine V_get dX6_gatherShares_12 fX6_9 0 rfl rfl ?_
      refine V_iload_n dX6_gatherShares_15 3 rfl ?_
      have hgn := (hg n (by omega)).2
      refine V_iald dX6_gatherShares_16 1 rfl rfl n rfl (by omega) ?_
      refine V_casti (y := nI (g n)) (hg n (by omega)).1 ?_
      refine V_partR dX6_gatherShares_17 lX6_69 (cQ w a sr (Q.1, Q.2.1, Q.2.2.1, Q.2.2.2.1, gSh B g Q.2.2.2.2 Q.2.1 x n)) (c_B_find_n w ab aj B hB (g n) (hg n (by omega)).2) List.perm_append_comm rfl rfl 0 rfl rfl rfl rfl ?_
      refine V_astore dX6_gatherShares_20 rfl (L' := [(0, .ref (a 0)), (1, .ref (ab 0)), (2, .int x), (3, .int (nI n)), (4, .ref (aj (g n) 0))]) rfl ?_
      refine V_aload_n dX6_gatherShares_22 0 rfl ?_
      refine V_get dX6_gatherShares_23 fX6_17 0 rfl rfl ?_
      refine V_iload_n dX6_gatherShares_26 3 rfl ?_
      refine V_aaldI dX6_gatherShares_27 2 rfl rfl n rfl (by omega) ?_
      refine V_aload_n dX6_gatherShares_28 0 rfl ?_
      refine V_get dX6_gatherShares_29 fX6_27 0 rfl rfl ?_
      refine V_aload dX6_gatherShares_32 4 rfl ?_
      refine V_ifnonnull 41 dX6_gatherShares_34 (by decide) ?_
      refine V_aload dX6_gatherShares_41 4 rfl ?_
      refine V_iload_n dX6_gatherShares_43 2 rfl ?_
      refine V_partR dX6_gatherShares_44 lX6_73 ((cB5 w ab aj B ++ cJx w aj B.2.2.2 (g n)) ++ cQ w a sr (Q.1, Q.2.1, Q.2.2.1, Q.2.2.2.1, gSh B g Q.2.2.2.2 Q.2.1 x n)) (c_J_netOf w (aj (g n)) (B.2.2.2 (g n)) x (hb3 (g n) (by omega))) (rb_f (by omega)) rfl rfl 0 rfl rfl rfl rfl ?_
      refine V_iast dX6_gatherShares_47 (4 + n) (cQ_row (by omega)) rfl Q.2.1 rfl (by omega) (ws' := cQ w a sr (Q.1, Q.2.1, Q.2.2.1, Q.2.2.2.1, uX (gSh B g Q.2.2.2.2 Q.2.1 x n) n (upd ((gSh B g Q.2.2.2.2 Q.2.1 x n) n) Q.2.1 (jNet (B.2.2.2 (g n)) x (B.2.2.2 (g n)).2.1))) ++ cB w ab aj B) (cQ_set (by omega)) ?_
      refine V_iinc (nI (n + 1)) dX6_gatherShares_48 3 rfl (nI_i1 n) rfl (L' := [(0, .ref (a 0)), (1, .ref (ab 0)), (2, .int x), (3, .int (nI (n + 1))), (4, .ref (aj (g n) 0))]) rfl ?_
      refine V_goto 2 dX6_gatherShares_51 (by decide) ?_
      refine V_dropL (L' := [(0, .ref (a 0)), (1, .ref (ab 0)), (2, .int x), (3, .int (nI (n + 1)))]) (L'' := [(4, .ref (aj (g n) 0))]) rfl ?_
      exact ih (n + 1) (by omega) (by omega)

set_option maxRecDepth 100000 in
set_option maxHeartbeats 4000000 in
theorem c_S_gatherShares (w : vWd) (a sr : Nat → Nat) (Q : SP) (ab : Nat → Nat) (aj : Nat → Nat → Nat) (B : BP) (hB : okB B) (g : Nat → Nat) (x : Int32) (hq1 : Q.1 ≤ 30) (hq2 : Q.2.1 < 12) (hg : ∀ n, n < Q.1 → Q.2.2.1 n = nI (g n) ∧ g n < B.2.1) : Ct w mX6_gatherShares 3 0 0 [.ref (a 0), .ref (ab 0), .int x] (cQ w a sr Q ++ cB w ab aj B) (qE none (cQ w a sr (Q.1, Q.2.1, Q.2.2.1, Q.2.2.2.1, gSh B g Q.2.2.2.2 Q.2.1 x Q.1) ++ cB w ab aj B)) := by
  refine Ct.of (L := [(0, .ref (a 0)), (1, .ref (ab 0)), (2, .int x)]) (by decide) rfl rfl ?_
  refine V_iconst 0 dX6_gatherShares_0 (by decide) ?_
  refine V_istore_n dX6_gatherShares_1 rfl (L' := [(0, .ref (a 0)), (1, .ref (ab 0)), (2, .int x), (3, .int 0)]) rfl ?_
  exact lp_S_shares w a sr Q ab aj B hB g x hq1 hq2 hg (Q.1 + 1) 0 (by omega) (by omega)
