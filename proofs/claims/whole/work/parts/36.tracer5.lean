/-! 36: CashDeriver$Tracer: gatherAccounts -/
def gA (B : BP) (g : Nat → Nat) (nj : Nat) (e : Nat → Int32) (S : Nat → Nat → Int32) : Nat → Nat × (Nat → Int32) × (Nat → Nat → Int32)
  | 0 => (0, e, S)
  | n + 1 => if bIsT B (nI n) = true then ((gA B g nj e S n).1 + 1, upd (gA B g nj e S n).2.1 (gA B g nj e S n).1 (-bRes B (nI n)), gSh B g (gA B g nj e S n).2.2 (gA B g nj e S n).1 (nI n) nj) else gA B g nj e S n
theorem gA_le (B : BP) (g : Nat → Nat) (nj : Nat) (e : Nat → Int32) (S : Nat → Nat → Int32) : ∀ n, (gA B g nj e S n).1 ≤ n
  | 0 => Nat.le_refl _
  | n + 1 => by
    have h := gA_le B g nj e S n
    rw [gA]
    split
    · show (gA B g nj e S n).1 + 1 ≤ n + 1; omega
    · omega

set_option maxRecDepth 100000 in
set_option maxHeartbeats 4000000 in
theorem lp_S_ga (w : vWd) (a sr : Nat → Nat) (Q : SP) (ab : Nat → Nat) (aj : Nat → Nat → Nat) (B : BP) (hB : okB B) (g : Nat → Nat) (hq1 : Q.1 ≤ 30) (hg : ∀ n, n < Q.1 → Q.2.2.1 n = nI (g n) ∧ g n < B.2.1) : ∀ (m : Nat) (n : Nat), (13 ≤ n + m) → (n ≤ 12) → V w mX6_gatherAccounts (vc w 5 0 0 (qE none (cQ w a sr (Q.1, (gA B g Q.1 Q.2.2.2.1 Q.2.2.2.2 12).1, Q.2.2.1, (gA B g Q.1 Q.2.2.2.1 Q.2.2.2.2 12).2.1, (gA B g Q.1 Q.2.2.2.1 Q.2.2.2.2 12).2.2) ++ cB w ab aj B))) 0 0 7 [(0, .ref (a 0)), (1, .ref (ab 0)), (2, .int (nI n))] [] (cQ w a sr (Q.1, (gA B g Q.1 Q.2.2.2.1 Q.2.2.2.2 n).1, Q.2.2.1, (gA B g Q.1 Q.2.2.2.1 Q.2.2.2.2 n).2.1, (gA B g Q.1 Q.2.2.2.1 Q.2.2.2.2 n).2.2) ++ cB w ab aj B) := by
  intro m
  induction m with
  | zero =>
    intro n h1 h2
    exact absurd h1 (by omega)
  | succ m ih =>
    intro n h1 h2
    have hg9 := gA_le B g Q.1 Q.2.2.2.1 Q.2.2.2.2 n
    refine V_iload_n dX6_gatherAccounts_7 2 rfl ?_
    refine V_bipush 12 dX6_gatherAccounts_8 (by decide) ?_
    refine V_icmp_ge_n n 12 58 dX6_gatherAccounts_10 (by decide) (by omega) (by omega) (fun zc1 => ?_) (fun zc1 => ?_)
    · exact V_vret dX6_gatherAccounts_58 rfl (nb rfl) (nb rfl) ⟨rfl, by rw [show n = 12 by omega]⟩
    · refine V_aload_n dX6_gatherAccounts_13 1 rfl ?_
      refine V_iload_n dX6_gatherAccounts_14 2 rfl ?_
      refine V_partR dX6_gatherAccounts_15 lX6_57 (cQ w a sr (Q.1, (gA B g Q.1 Q.2.2.2.1 Q.2.2.2.2 n).1, Q.2.2.1, (gA B g Q.1 Q.2.2.2.1 Q.2.2.2.2 n).2.1, (gA B g Q.1 Q.2.2.2.1 Q.2.2.2.2 n).2.2)) (c_B_isTold w ab aj B (nI n) hB) List.perm_append_comm rfl rfl 0 rfl rfl rfl rfl ?_
      refine V_ifeq_b 52 dX6_gatherAccounts_18 (by decide) (fun zc2 => ?_) (fun zc2 => ?_)
      · have zt := zc2
        refine V_iinc (nI (n + 1)) dX6_gatherAccounts_52 2 rfl (nI_i1 n) rfl (L' := [(0, .ref (a 0)), (1, .ref (ab 0)), (2, .int (nI (n + 1)))]) rfl ?_
        refine V_goto 7 dX6_gatherAccounts_55 (by decide) ?_
        refine V_ws (ws' := cQ w a sr (Q.1, (gA B g Q.1 Q.2.2.2.1 Q.2.2.2.2 (n + 1)).1, Q.2.2.1, (gA B g Q.1 Q.2.2.2.1 Q.2.2.2.2 (n + 1)).2.1, (gA B g Q.1 Q.2.2.2.1 Q.2.2.2.2 (n + 1)).2.2) ++ cB w ab aj B) (by rw [show gA B g Q.1 Q.2.2.2.1 Q.2.2.2.2 (n + 1) = (gA B g Q.1 Q.2.2.2.1 Q.2.2.2.2 n) by rw [gA, if_neg (by rw [zt]; decide)]]) ?_
        exact ih (n + 1) (by omega) (by omega)
      · have zt := zc2
        refine V_aload_n dX6_gatherAccounts_21 0 rfl ?_
        refine V_get dX6_gatherAccounts_22 fX6_20 0 rfl rfl ?_
        refine V_aload_n dX6_gatherAccounts_25 0 rfl ?_
        refine V_get dX6_gatherAccounts_26 fX6_27 0 rfl rfl ?_
        refine V_aload_n dX6_gatherAccounts_29 1 rfl ?_
        refine V_iload_n dX6_gatherAccounts_30 2 rfl ?_
        refine V_partR dX6_gatherAccounts_31 lX6_61 (cQ w a sr (Q.1, (gA B g Q.1 Q.2.2.2.1 Q.2.2.2.2 n).1, Q.2.2.1, (gA B g Q.1 Q.2.2.2.1 Q.2.2.2.2 n).2.1, (gA B g Q.1 Q.2.2.2.1 Q.2.2.2.2 n).2.2)) (c_B_residualOf w ab aj B (nI n) hB) List.perm_append_comm rfl rfl 0 rfl rfl rfl rfl ?_
        refine V_ineg dX6_gatherAccounts_34 ?_
        refine V_iast dX6_gatherAccounts_35 3 rfl rfl ((gA B g Q.1 Q.2.2.2.1 Q.2.2.2.2 n).1) rfl (by omega) (ws' := cQ w a sr (Q.1, (gA B g Q.1 Q.2.2.2.1 Q.2.2.2.2 n).1, Q.2.2.1, upd ((gA B g Q.1 Q.2.2.2.1 Q.2.2.2.2 n).2.1) ((gA B g Q.1 Q.2.2.2.1 Q.2.2.2.2 n).1) (-(bRes B (nI n))), (gA B g Q.1 Q.2.2.2.1 Q.2.2.2.2 n).2.2) ++ cB w ab aj B) rfl ?_
        refine V_aload_n dX6_gatherAccounts_36 0 rfl ?_
        refine V_aload_n dX6_gatherAccounts_37 1 rfl ?_
        refine V_iload_n dX6_gatherAccounts_38 2 rfl ?_
        refine V_selfE (ws' := cQ w a sr (Q.1, (gA B g Q.1 Q.2.2.2.1 Q.2.2.2.2 n).1, Q.2.2.1, upd ((gA B g Q.1 Q.2.2.2.1 Q.2.2.2.2 n).2.1) ((gA B g Q.1 Q.2.2.2.1 Q.2.2.2.2 n).1) (-(bRes B (nI n))), gSh B g ((gA B g Q.1 Q.2.2.2.1 Q.2.2.2.2 n).2.2) ((gA B g Q.1 Q.2.2.2.1 Q.2.2.2.2 n).1) (nI n) Q.1) ++ cB w ab aj B) dX6_gatherAccounts_39 lX6_65 (c_S_gatherShares w a sr (Q.1, (gA B g Q.1 Q.2.2.2.1 Q.2.2.2.2 n).1, Q.2.2.1, upd ((gA B g Q.1 Q.2.2.2.1 Q.2.2.2.2 n).2.1) ((gA B g Q.1 Q.2.2.2.1 Q.2.2.2.2 n).1) (-(bRes B (nI n))), (gA B g Q.1 Q.2.2.2.1 Q.2.2.2.2 n).2.2) ab aj B hB g (nI n) hq1 (show ((gA B g Q.1 Q.2.2.2.1 Q.2.2.2.2 n).1) < 12 by omega) hg) rfl rfl 0 rfl rfl rfl rfl ?_
        refine V_aload_n dX6_gatherAccounts_42 0 rfl ?_
        refine V_dup dX6_gatherAccounts_43 rfl ?_
        refine V_get dX6_gatherAccounts_44 fX6_27 0 rfl rfl ?_
        refine V_iconst 1 dX6_gatherAccounts_47 (by decide) ?_
        refine V_iadd dX6_gatherAccounts_48 ?_
        refine V_casti (y := nI (((gA B g Q.1 Q.2.2.2.1 Q.2.2.2.2 n).1) + 1)) (nI_add ((gA B g Q.1 Q.2.2.2.1 Q.2.2.2.2 n).1) 1) ?_
        refine V_put dX6_gatherAccounts_49 pX6_27 0 rfl rfl rfl rfl (ws' := cQ w a sr (Q.1, ((gA B g Q.1 Q.2.2.2.1 Q.2.2.2.2 n).1) + 1, Q.2.2.1, upd ((gA B g Q.1 Q.2.2.2.1 Q.2.2.2.2 n).2.1) ((gA B g Q.1 Q.2.2.2.1 Q.2.2.2.2 n).1) (-(bRes B (nI n))), gSh B g ((gA B g Q.1 Q.2.2.2.1 Q.2.2.2.2 n).2.2) ((gA B g Q.1 Q.2.2.2.1 Q.2.2.2.2 n).1) (nI n) Q.1) ++ cB w ab aj B) rfl ?_
        refine V_iinc (nI (n + 1)) dX6_gatherAccounts_52 2 rfl (nI_i1 n) rfl (L' := [(0, .ref (a 0)), (1, .ref (ab 0)), (2, .int (nI (n + 1)))]) rfl ?_
        refine V_goto 7 dX6_gatherAccounts_55 (by decide) ?_
        refine V_ws (ws' := cQ w a sr (Q.1, (gA B g Q.1 Q.2.2.2.1 Q.2.2.2.2 (n + 1)).1, Q.2.2.1, (gA B g Q.1 Q.2.2.2.1 Q.2.2.2.2 (n + 1)).2.1, (gA B g Q.1 Q.2.2.2.1 Q.2.2.2.2 (n + 1)).2.2) ++ cB w ab aj B) (by rw [show gA B g Q.1 Q.2.2.2.1 Q.2.2.2.2 (n + 1) = ((gA B g Q.1 Q.2.2.2.1 Q.2.2.2.2 n).1 + 1, upd (gA B g Q.1 Q.2.2.2.1 Q.2.2.2.2 n).2.1 (gA B g Q.1 Q.2.2.2.1 Q.2.2.2.2 n).1 (-bRes B (nI n)), gSh B g (gA B g Q.1 Q.2.2.2.1 Q.2.2.2.2 n).2.2 (gA B g Q.1 Q.2.2.2.1 Q.2.2.2.2 n).1 (nI n) Q.1) by rw [gA, if_pos zt]]) ?_
        exact ih (n + 1) (by omega) (by omega)

set_option maxRecDepth 100000 in
set_option maxHeartbeats 4000000 in
theorem c_S_gatherAccounts (w : vWd) (a sr : Nat → Nat) (Q : SP) (ab : Nat → Nat) (aj : Nat → Nat → Nat) (B : BP) (hB : okB B) (g : Nat → Nat) (hq1 : Q.1 ≤ 30) (hg : ∀ n, n < Q.1 → Q.2.2.1 n = nI (g n) ∧ g n < B.2.1) : Ct w mX6_gatherAccounts 5 0 0 [.ref (a 0), .ref (ab 0)] (cQ w a sr Q ++ cB w ab aj B) (qE none (cQ w a sr (Q.1, (gA B g Q.1 Q.2.2.2.1 Q.2.2.2.2 12).1, Q.2.2.1, (gA B g Q.1 Q.2.2.2.1 Q.2.2.2.2 12).2.1, (gA B g Q.1 Q.2.2.2.1 Q.2.2.2.2 12).2.2) ++ cB w ab aj B)) := by
  refine Ct.of (L := [(0, .ref (a 0)), (1, .ref (ab 0))]) (by decide) rfl rfl ?_
  refine V_aload_n dX6_gatherAccounts_0 0 rfl ?_
  refine V_iconst 0 dX6_gatherAccounts_1 (by decide) ?_
  refine V_put dX6_gatherAccounts_2 pX6_27 0 rfl rfl rfl rfl (ws' := cQ w a sr (Q.1, 0, Q.2.2.1, Q.2.2.2.1, Q.2.2.2.2) ++ cB w ab aj B) rfl ?_
  refine V_iconst 0 dX6_gatherAccounts_5 (by decide) ?_
  refine V_istore_n dX6_gatherAccounts_6 rfl (L' := [(0, .ref (a 0)), (1, .ref (ab 0)), (2, .int 0)]) rfl ?_
  exact lp_S_ga w a sr Q ab aj B hB g hq1 hg 13 0 (by omega) (by omega)
