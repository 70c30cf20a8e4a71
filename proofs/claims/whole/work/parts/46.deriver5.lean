/-! 46: account and journal, which may throw; the law's own two that catch it -/
def dAcc (B : BP) (x y : Int32) : Option Int32 := if inA B.1 x = true then (if y = 0 then some (bKind B x) else if y = 1 then some (bFirst B x) else if y = 2 then some (bBal B x 19) else if y = 3 then some (if bIsT B x = true then bTold B x else 0) else if y = 4 then some (bRes B x) else none) else none
def dJo1 (J : JP) (y : Int32) : Option Int32 := if y = 0 then some J.1 else if y = 1 then some (nI J.2.1) else if y = 2 then some (nI J.2.2.1) else if y = 3 then some (nI J.2.2.2.1) else if y = 4 then some (bi J.2.2.2.2.1) else if ¬ y < 10 ∧ ¬ 40 ≤ y ∧ y - y / 10 * 10 < nI J.2.1 then (if y / 10 = 1 then some (jAcc J (y - y / 10 * 10)) else if y / 10 = 2 then some (jAmt J (y - y / 10 * 10)) else some (jGrp J (y - y / 10 * 10))) else none
def dJou (B : BP) (j y : Int32) : Option Int32 := if inR B.2.1 j = true then dJo1 (B.2.2.2 j.toNatClampNeg) y else none

set_option maxRecDepth 100000 in
set_option maxHeartbeats 4000000 in
theorem c_D_account (w : vWd) (D : DW) (b c : DB) (T : TP) (P : RP) (G : GP) (Q : SP) (A : AP) (B E : BP) (x y : Int32) (hst : w.1.stackTraces = false) (hB : okB B) : Cx w mX7_account 6 1 6 [.ref (D.1), .int x, .int y] (cD w D b c T P G Q A B E) (fun r z => ∃ v : Int32, dAcc B x y = some v ∧ r = some (.int v) ∧ z = cD w D b c T P G Q A B E) (fun z => dAcc B x y = none ∧ z = cD w D b c T P G Q A B E) := by
  refine Cx.of (L := [(0, .ref (D.1)), (1, .int x), (2, .int y)]) (by decide) rfl rfl ?_
  refine V_aload_n dX7_account_0 0 rfl ?_
  refine V_get dX7_account_1 fX7_49 0 rfl rfl ?_
  refine V_iload_n dX7_account_4 1 rfl ?_
  refine V_partR dX7_account_5 lX7_105 _ (c_B_hasAccount w b.1 b.2 B x ) D_B rfl rfl 0 rfl rfl rfl rfl ?_
  refine V_ifne_b 21 dX7_account_8 (by decide) (fun zc1 => ?_) (fun zc1 => ?_)
  · refine V_iload_n dX7_account_21 2 rfl ?_
    by_cases zc2 : y = 0
    · refine V_tabIn 56 dX7_account_22 (by rw [zc2]; decide) (by rw [zc2]; decide) (by rw [zc2]; rfl) (by decide) ?_
      refine V_aload_n dX7_account_56 0 rfl ?_
      refine V_get dX7_account_57 fX7_49 0 rfl rfl ?_
      refine V_iload_n dX7_account_60 1 rfl ?_
      refine V_partR dX7_account_61 lX7_115 _ (c_B_kindOf w b.1 b.2 B x hB) D_B rfl rfl 0 rfl rfl rfl rfl ?_
      refine V.noX ?_
      exact V_iret dX7_account_64 rfl (nb rfl) (nb rfl) ⟨bKind B x, by clear hst hB; grind [dAcc], rfl, rfl⟩
    by_cases zc3 : y = 1
    · refine V_tabIn 65 dX7_account_22 (by rw [zc3]; decide) (by rw [zc3]; decide) (by rw [zc3]; rfl) (by decide) ?_
      refine V_aload_n dX7_account_65 0 rfl ?_
      refine V_get dX7_account_66 fX7_49 0 rfl rfl ?_
      refine V_iload_n dX7_account_69 1 rfl ?_
      refine V_partR dX7_account_70 lX7_119 _ (c_B_firstOf w b.1 b.2 B x hB) D_B rfl rfl 0 rfl rfl rfl rfl ?_
      refine V.noX ?_
      exact V_iret dX7_account_73 rfl (nb rfl) (nb rfl) ⟨bFirst B x, by clear hst hB; grind [dAcc], rfl, rfl⟩
    by_cases zc4 : y = 2
    · refine V_tabIn 74 dX7_account_22 (by rw [zc4]; decide) (by rw [zc4]; decide) (by rw [zc4]; rfl) (by decide) ?_
      refine V_aload_n dX7_account_74 0 rfl ?_
      refine V_get dX7_account_75 fX7_49 0 rfl rfl ?_
      refine V_iload_n dX7_account_78 1 rfl ?_
      refine V_bipush 19 dX7_account_79 (by decide) ?_
      refine V_partR dX7_account_81 lX7_122 _ (c_B_balanceOf w b.1 b.2 B x 19 hB) D_B rfl rfl 0 rfl rfl rfl rfl ?_
      refine V.noX ?_
      exact V_iret dX7_account_84 rfl (nb rfl) (nb rfl) ⟨bBal B x 19, by clear hst hB; grind [dAcc], rfl, rfl⟩
    by_cases zc5 : y = 3
    · refine V_tabIn 85 dX7_account_22 (by rw [zc5]; decide) (by rw [zc5]; decide) (by rw [zc5]; rfl) (by decide) ?_
      refine V_aload_n dX7_account_85 0 rfl ?_
      refine V_get dX7_account_86 fX7_49 0 rfl rfl ?_
      refine V_iload_n dX7_account_89 1 rfl ?_
      refine V_partR dX7_account_90 lX7_126 _ (c_B_isTold w b.1 b.2 B x hB) D_B rfl rfl 0 rfl rfl rfl rfl ?_
      refine V_ifeq_b 107 dX7_account_93 (by decide) (fun zc6 => ?_) (fun zc6 => ?_)
      · refine V_iconst 0 dX7_account_107 (by decide) ?_
        refine V.noX ?_
        exact V_iret dX7_account_108 rfl (nb rfl) (nb rfl) ⟨0, by clear hst hB; grind [dAcc], rfl, rfl⟩
      · refine V_aload_n dX7_account_96 0 rfl ?_
        refine V_get dX7_account_97 fX7_49 0 rfl rfl ?_
        refine V_iload_n dX7_account_100 1 rfl ?_
        refine V_partR dX7_account_101 lX7_129 _ (c_B_toldOf w b.1 b.2 B x hB) D_B rfl rfl 0 rfl rfl rfl rfl ?_
        refine V_goto 108 dX7_account_104 (by decide) ?_
        refine V.noX ?_
        exact V_iret dX7_account_108 rfl (nb rfl) (nb rfl) ⟨bTold B x, by clear hst hB; grind [dAcc], rfl, rfl⟩
    by_cases zc7 : y = 4
    · refine V_tabIn 109 dX7_account_22 (by rw [zc7]; decide) (by rw [zc7]; decide) (by rw [zc7]; rfl) (by decide) ?_
      refine V_aload_n dX7_account_109 0 rfl ?_
      refine V_get dX7_account_110 fX7_49 0 rfl rfl ?_
      refine V_iload_n dX7_account_113 1 rfl ?_
      refine V_partR dX7_account_114 lX7_132 _ (c_B_residualOf w b.1 b.2 B x hB) D_B rfl rfl 0 rfl rfl rfl rfl ?_
      refine V.noX ?_
      exact V_iret dX7_account_117 rfl (nb rfl) (nb rfl) ⟨bRes B x, by clear hst hB; grind [dAcc], rfl, rfl⟩
    refine V_tabOut 118 dX7_account_22 (v_out4 zc2 zc3 zc4 zc5 zc7) (by decide) ?_
    exact V_throwS (tx := "an account has no such figure") (j := 9) hst rfl dX7_account_118 dX7_account_121 dX7_account_122 dX7_account_124 dX7_account_127 (by decide +kernel) (by omega) (nb rfl) (nb rfl) ⟨by clear hst hB; grind [dAcc], rfl⟩
  · exact V_throwS (tx := "no such account") (j := 8) hst rfl dX7_account_11 dX7_account_14 dX7_account_15 dX7_account_17 dX7_account_20 (by decide +kernel) (by omega) (nb rfl) (nb rfl) ⟨by clear hst hB; grind [dAcc], rfl⟩

set_option maxRecDepth 100000 in
set_option maxHeartbeats 4000000 in
theorem c_D_journal (w : vWd) (D : DW) (b c : DB) (T : TP) (P : RP) (G : GP) (Q : SP) (A : AP) (B E : BP) (j y : Int32) (hst : w.1.stackTraces = false) (hB : okB B) : Cx w mX7_journal 6 1 6 [.ref (D.1), .int j, .int y] (cD w D b c T P G Q A B E) (fun r z => ∃ v : Int32, dJou B j y = some v ∧ r = some (.int v) ∧ z = cD w D b c T P G Q A B E) (fun z => dJou B j y = none ∧ z = cD w D b c T P G Q A B E) := by
  refine Cx.of (L := [(0, .ref (D.1)), (1, .int j), (2, .int y)]) (by decide) rfl rfl ?_
  refine V_aload_n dX7_journal_0 0 rfl ?_
  refine V_get dX7_journal_1 fX7_49 0 rfl rfl ?_
  refine V_iload_n dX7_journal_4 1 rfl ?_
  refine V_partR dX7_journal_5 lX7_81 _ (c_B_find w b.1 b.2 B j hB) D_B rfl rfl 0 rfl rfl rfl rfl ?_
  rcases bRef_cs hB b.2 j with ⟨hf, he⟩ | ⟨n, hn, hx, hi, he⟩
  · refine V_castv (y := .null) he ?_
    refine V_astore_nN dX7_journal_8 rfl (L' := [(0, .ref (D.1)), (1, .int j), (2, .int y), (3, .null)]) rfl ?_
    refine V_aload_nN dX7_journal_9 3 rfl ?_
    refine V_ifnonnullN dX7_journal_10 ?_
    exact V_throwS (tx := "no such journal") (j := 10) hst rfl dX7_journal_13 dX7_journal_16 dX7_journal_17 dX7_journal_19 dX7_journal_22 (by decide +kernel) (by omega) (nb rfl) (nb rfl) ⟨by rw [dJou, if_neg (by rw [hf]; decide)], rfl⟩
  · refine V_castv (y := .ref (b.2 n 0)) he ?_
    have hn30 : n < 30 := by have := hB.2.1; omega
    have h6l := (hB.2.2 n hn30).1
    refine V_astore_n dX7_journal_8 rfl (L' := [(0, .ref (D.1)), (1, .int j), (2, .int y), (3, .ref (b.2 n 0))]) rfl ?_
    refine V_aload_n dX7_journal_9 3 rfl ?_
    refine V_ifnonnull 23 dX7_journal_10 (by decide) ?_
    refine V_iload_n dX7_journal_23 2 rfl ?_
    by_cases zc1 : y = 0
    · refine V_tabIn 60 dX7_journal_24 (by rw [zc1]; decide) (by rw [zc1]; decide) (by rw [zc1]; rfl) (by decide) ?_
      refine V_aload_n dX7_journal_60 3 rfl ?_
      refine V_partR dX7_journal_61 lX7_139 _ (c_J_period w (b.2 n) (B.2.2.2 n)) (D_J hn30) rfl rfl 0 rfl rfl rfl rfl ?_
      refine V.noX ?_
      exact V_iret dX7_journal_64 rfl (nb rfl) (nb rfl) ⟨(B.2.2.2 n).1, by rw [dJou, if_pos hi, show j.toNatClampNeg = n by rw [hx]; exact nI_cl hn30]; clear hst hB; grind [dJo1, bi], rfl, rfl⟩
    by_cases zc2 : y = 1
    · refine V_tabIn 65 dX7_journal_24 (by rw [zc2]; decide) (by rw [zc2]; decide) (by rw [zc2]; rfl) (by decide) ?_
      refine V_aload_n dX7_journal_65 3 rfl ?_
      refine V_partR dX7_journal_66 lX7_144 _ (c_J_lines w (b.2 n) (B.2.2.2 n)) (D_J hn30) rfl rfl 0 rfl rfl rfl rfl ?_
      refine V.noX ?_
      exact V_iret dX7_journal_69 rfl (nb rfl) (nb rfl) ⟨nI ((B.2.2.2 n).2.1), by rw [dJou, if_pos hi, show j.toNatClampNeg = n by rw [hx]; exact nI_cl hn30]; clear hst hB; grind [dJo1, bi], rfl, rfl⟩
    by_cases zc3 : y = 2
    · refine V_tabIn 70 dX7_journal_24 (by rw [zc3]; decide) (by rw [zc3]; decide) (by rw [zc3]; rfl) (by decide) ?_
      refine V_aload_n dX7_journal_70 3 rfl ?_
      refine V_partR dX7_journal_71 lX7_147 _ (c_J_groups w (b.2 n) (B.2.2.2 n)) (D_J hn30) rfl rfl 0 rfl rfl rfl rfl ?_
      refine V.noX ?_
      exact V_iret dX7_journal_74 rfl (nb rfl) (nb rfl) ⟨nI ((B.2.2.2 n).2.2.1), by rw [dJou, if_pos hi, show j.toNatClampNeg = n by rw [hx]; exact nI_cl hn30]; clear hst hB; grind [dJo1, bi], rfl, rfl⟩
    by_cases zc4 : y = 3
    · refine V_tabIn 75 dX7_journal_24 (by rw [zc4]; decide) (by rw [zc4]; decide) (by rw [zc4]; rfl) (by decide) ?_
      refine V_aload_n dX7_journal_75 3 rfl ?_
      refine V_partR dX7_journal_76 lX7_150 _ (c_J_pieces w (b.2 n) (B.2.2.2 n)) (D_J hn30) rfl rfl 0 rfl rfl rfl rfl ?_
      refine V.noX ?_
      exact V_iret dX7_journal_79 rfl (nb rfl) (nb rfl) ⟨nI ((B.2.2.2 n).2.2.2.1), by rw [dJou, if_pos hi, show j.toNatClampNeg = n by rw [hx]; exact nI_cl hn30]; clear hst hB; grind [dJo1, bi], rfl, rfl⟩
    by_cases zc5 : y = 4
    · refine V_tabIn 80 dX7_journal_24 (by rw [zc5]; decide) (by rw [zc5]; decide) (by rw [zc5]; rfl) (by decide) ?_
      refine V_aload_n dX7_journal_80 3 rfl ?_
      refine V_partR dX7_journal_81 lX7_153 _ (c_J_isStruck w (b.2 n) (B.2.2.2 n)) (D_J hn30) rfl rfl 0 rfl rfl rfl rfl ?_
      refine V_ifeq_b 91 dX7_journal_84 (by decide) (fun zc6 => ?_) (fun zc6 => ?_)
      · refine V_iconst 0 dX7_journal_91 (by decide) ?_
        refine V.noX ?_
        exact V_iret dX7_journal_92 rfl (nb rfl) (nb rfl) ⟨0, by rw [dJou, if_pos hi, show j.toNatClampNeg = n by rw [hx]; exact nI_cl hn30]; clear hst hB; grind [dJo1, bi], rfl, rfl⟩
      · refine V_iconst 1 dX7_journal_87 (by decide) ?_
        refine V_goto 92 dX7_journal_88 (by decide) ?_
        refine V.noX ?_
        exact V_iret dX7_journal_92 rfl (nb rfl) (nb rfl) ⟨1, by rw [dJou, if_pos hi, show j.toNatClampNeg = n by rw [hx]; exact nI_cl hn30]; clear hst hB; grind [dJo1, bi], rfl, rfl⟩
    refine V_tabOut 93 dX7_journal_24 (v_out4 zc1 zc2 zc3 zc4 zc5) (by decide) ?_
    refine V_iload_n dX7_journal_93 2 rfl ?_
    refine V_bipush 10 dX7_journal_94 (by decide) ?_
    refine V_irem dX7_journal_96 (by decide) ?_
    refine V_istore dX7_journal_97 rfl (L' := [(0, .ref (D.1)), (1, .int j), (2, .int y), (3, .ref (b.2 n 0)), (4, .int (y - y / 10 * 10))]) rfl ?_
    refine V_iload_n dX7_journal_99 2 rfl ?_
    refine V_bipush 10 dX7_journal_100 (by decide) ?_
    refine V_icmp_lt 120 dX7_journal_102 (by decide) (fun zc7 => ?_) (fun zc7 => ?_)
    · exact V_throwS (tx := "a journal has no such figure") (j := 11) hst rfl dX7_journal_120 dX7_journal_123 dX7_journal_124 dX7_journal_126 dX7_journal_129 (by decide +kernel) (by omega) (nb rfl) (nb rfl) ⟨by rw [dJou, if_pos hi, show j.toNatClampNeg = n by rw [hx]; exact nI_cl hn30]; clear hst hB; grind [dJo1], rfl⟩
    · refine V_iload_n dX7_journal_105 2 rfl ?_
      refine V_bipush 40 dX7_journal_106 (by decide) ?_
      refine V_icmp_ge 120 dX7_journal_108 (by decide) (fun zc8 => ?_) (fun zc8 => ?_)
      · exact V_throwS (tx := "a journal has no such figure") (j := 11) hst rfl dX7_journal_120 dX7_journal_123 dX7_journal_124 dX7_journal_126 dX7_journal_129 (by decide +kernel) (by omega) (nb rfl) (nb rfl) ⟨by rw [dJou, if_pos hi, show j.toNatClampNeg = n by rw [hx]; exact nI_cl hn30]; clear hst hB; grind [dJo1], rfl⟩
      · refine V_iload dX7_journal_111 4 rfl ?_
        refine V_aload_n dX7_journal_113 3 rfl ?_
        refine V_partR dX7_journal_114 lX7_144 _ (c_J_lines w (b.2 n) (B.2.2.2 n)) (D_J hn30) rfl rfl 0 rfl rfl rfl rfl ?_
        refine V_icmp_lt 130 dX7_journal_117 (by decide) (fun zc9 => ?_) (fun zc9 => ?_)
        · refine V_iload_n dX7_journal_130 2 rfl ?_
          refine V_bipush 10 dX7_journal_131 (by decide) ?_
          refine V_idiv dX7_journal_133 (by decide) ?_
          by_cases zc10 : y / 10 = 1
          · refine V_look (off := 26) 160 dX7_journal_134 rfl (by first | (rw [zc10]; done) | (rw [zc10]; rfl)) (by decide) ?_
            refine V_aload_n dX7_journal_160 3 rfl ?_
            refine V_iload dX7_journal_161 4 rfl ?_
            refine V_partR dX7_journal_163 lX7_159 _ (c_J_accountOf w (b.2 n) (B.2.2.2 n) (y - y / 10 * 10) (hB.2.2 n hn30)) (D_J hn30) rfl rfl 0 rfl rfl rfl rfl ?_
            refine V.noX ?_
            exact V_iret dX7_journal_166 rfl (nb rfl) (nb rfl) ⟨jAcc (B.2.2.2 n) (y - y / 10 * 10), by rw [dJou, if_pos hi, show j.toNatClampNeg = n by rw [hx]; exact nI_cl hn30]; clear hst hB; grind [dJo1, bi], rfl, rfl⟩
          by_cases zc11 : y / 10 = 2
          · refine V_look (off := 33) 167 dX7_journal_134 rfl (by first | (rw [zc11]; done) | (rw [zc11]; rfl)) (by decide) ?_
            refine V_aload_n dX7_journal_167 3 rfl ?_
            refine V_iload dX7_journal_168 4 rfl ?_
            refine V_partR dX7_journal_170 lX7_162 _ (c_J_amountOf w (b.2 n) (B.2.2.2 n) (y - y / 10 * 10) (hB.2.2 n hn30)) (D_J hn30) rfl rfl 0 rfl rfl rfl rfl ?_
            refine V.noX ?_
            exact V_iret dX7_journal_173 rfl (nb rfl) (nb rfl) ⟨jAmt (B.2.2.2 n) (y - y / 10 * 10), by rw [dJou, if_pos hi, show j.toNatClampNeg = n by rw [hx]; exact nI_cl hn30]; clear hst hB; grind [dJo1, bi], rfl, rfl⟩
          refine V_look (off := 40) 174 dX7_journal_134 rfl (by show Op.lookupswitch.offset [(1, 26), (2, 33)] 40 _ = _; rw [lv_osw (k := 1) (a := 1) zc10 rfl, lv_osw (k := 2) (a := 2) zc11 rfl]; rfl) (by decide) ?_
          refine V_aload_n dX7_journal_174 3 rfl ?_
          refine V_iload dX7_journal_175 4 rfl ?_
          refine V_partR dX7_journal_177 lX7_165 _ (c_J_groupOf w (b.2 n) (B.2.2.2 n) (y - y / 10 * 10) (hB.2.2 n hn30)) (D_J hn30) rfl rfl 0 rfl rfl rfl rfl ?_
          refine V.noX ?_
          exact V_iret dX7_journal_180 rfl (nb rfl) (nb rfl) ⟨jGrp (B.2.2.2 n) (y - y / 10 * 10), by rw [dJou, if_pos hi, show j.toNatClampNeg = n by rw [hx]; exact nI_cl hn30]; clear hst hB; grind [dJo1, bi], rfl, rfl⟩
        · exact V_throwS (tx := "a journal has no such figure") (j := 11) hst rfl dX7_journal_120 dX7_journal_123 dX7_journal_124 dX7_journal_126 dX7_journal_129 (by decide +kernel) (by omega) (nb rfl) (nb rfl) ⟨by rw [dJou, if_pos hi, show j.toNatClampNeg = n by rw [hx]; exact nI_cl hn30]; clear hst hB; grind [dJo1], rfl⟩

set_option maxRecDepth 100000 in
set_option maxHeartbeats 4000000 in
theorem c_L_account (w : vWd) (D : DW) (b c : DB) (T : TP) (P : RP) (G : GP) (Q : SP) (A : AP) (B E : BP) (u : Nat) (f : Nat → Int64) (x y : Int32) (hst : w.1.stackTraces = false) (hB : okB B) : CtT w mL_account [(0, 10, 13, 13)] 7 1 6 [.ref D.1, .int x, .int y, .ref u] (cD w D b c T P G Q A B E ++ [(u, .inl (vA w 2, 1, .inr (.inl f)))]) (qE (some (.int (match dAcc B x y with | some _ => 0 | none => 1))) (cD w D b c T P G Q A B E ++ [(u, .inl (vA w 2, 1, .inr (.inl (match dAcc B x y with | some v => vp_updL f 0 v.toInt64 | none => f))))])) := by
  refine CtT.of (L := [(0, .ref D.1), (1, .int x), (2, .int y), (3, .ref u)]) (by decide) rfl rfl ?_
  refine V_aload_n dL_account_0 3 rfl ?_
  refine V_iconst 0 dL_account_1 (by decide) ?_
  refine V_aload_n dL_account_2 0 rfl ?_
  refine V_iload_n dL_account_3 1 rfl ?_
  refine V_iload_n dL_account_4 2 rfl ?_
  refine V_virtT (rest := [.int 0, .ref u]) (As := [.int x, .int y]) (wr := [(u, .inl (vA w 2, 1, .inr (.inl f)))]) rfl dL_account_5 lL_7 (c_D_account w D b c T P G Q A B E x y hst hB) rfl rfl (nb rfl) (List.Perm.refl _) 0 rfl rfl rfl ⟨nb rfl, nb rfl⟩ ⟨nb rfl, nb rfl⟩ (by decide) (fun w1 q hq => ?_) (fun r w1 hq => ?_)
  · obtain ⟨hs, rfl⟩ := hq
    refine V_astore dL_account_13 rfl (L' := [(0, .ref D.1), (1, .int x), (2, .int y), (3, .ref u), (4, .ref q)]) rfl ?_
    refine V_iconst 1 dL_account_15 (by decide) ?_
    refine V.noT ?_
    exact V_iret dL_account_16 rfl (nb rfl) (nb rfl) ⟨by rw [hs], by rw [hs]⟩
  · obtain ⟨v, hs, rfl, rfl⟩ := hq
    refine V_i2l dL_account_8 ?_
    refine V.perm (ws' := [(u, .inl (vA w 2, 1, .inr (.inl f)))] ++ cD w D b c T P G Q A B E) List.perm_append_comm ?_
    refine V_last dL_account_9 0 rfl rfl 0 rfl (by omega) (ws' := [(u, .inl (vA w 2, 1, .inr (.inl (vp_updL f 0 v.toInt64))))] ++ cD w D b c T P G Q A B E) rfl ?_
    refine V.perm (ws' := cD w D b c T P G Q A B E ++ [(u, .inl (vA w 2, 1, .inr (.inl (vp_updL f 0 v.toInt64))))]) List.perm_append_comm ?_
    refine V_goto 17 dL_account_10 (by decide) ?_
    refine V_iconst 0 dL_account_17 (by decide) ?_
    refine V.noT ?_
    exact V_iret dL_account_18 rfl (nb rfl) (nb rfl) ⟨by rw [hs], by rw [hs]⟩

set_option maxRecDepth 100000 in
set_option maxHeartbeats 4000000 in
theorem c_L_journal (w : vWd) (D : DW) (b c : DB) (T : TP) (P : RP) (G : GP) (Q : SP) (A : AP) (B E : BP) (u : Nat) (f : Nat → Int64) (x y : Int32) (hst : w.1.stackTraces = false) (hB : okB B) : CtT w mL_journal [(0, 10, 13, 13)] 7 1 6 [.ref D.1, .int x, .int y, .ref u] (cD w D b c T P G Q A B E ++ [(u, .inl (vA w 2, 1, .inr (.inl f)))]) (qE (some (.int (match dJou B x y with | some _ => 0 | none => 1))) (cD w D b c T P G Q A B E ++ [(u, .inl (vA w 2, 1, .inr (.inl (match dJou B x y with | some v => vp_updL f 0 v.toInt64 | none => f))))])) := by
  refine CtT.of (L := [(0, .ref D.1), (1, .int x), (2, .int y), (3, .ref u)]) (by decide) rfl rfl ?_
  refine V_aload_n dL_journal_0 3 rfl ?_
  refine V_iconst 0 dL_journal_1 (by decide) ?_
  refine V_aload_n dL_journal_2 0 rfl ?_
  refine V_iload_n dL_journal_3 1 rfl ?_
  refine V_iload_n dL_journal_4 2 rfl ?_
  refine V_virtT (rest := [.int 0, .ref u]) (As := [.int x, .int y]) (wr := [(u, .inl (vA w 2, 1, .inr (.inl f)))]) rfl dL_journal_5 lL_15 (c_D_journal w D b c T P G Q A B E x y hst hB) rfl rfl (nb rfl) (List.Perm.refl _) 0 rfl rfl rfl ⟨nb rfl, nb rfl⟩ ⟨nb rfl, nb rfl⟩ (by decide) (fun w1 q hq => ?_) (fun r w1 hq => ?_)
  · obtain ⟨hs, rfl⟩ := hq
    refine V_astore dL_journal_13 rfl (L' := [(0, .ref D.1), (1, .int x), (2, .int y), (3, .ref u), (4, .ref q)]) rfl ?_
    refine V_iconst 1 dL_journal_15 (by decide) ?_
    refine V.noT ?_
    exact V_iret dL_journal_16 rfl (nb rfl) (nb rfl) ⟨by rw [hs], by rw [hs]⟩
  · obtain ⟨v, hs, rfl, rfl⟩ := hq
    refine V_i2l dL_journal_8 ?_
    refine V.perm (ws' := [(u, .inl (vA w 2, 1, .inr (.inl f)))] ++ cD w D b c T P G Q A B E) List.perm_append_comm ?_
    refine V_last dL_journal_9 0 rfl rfl 0 rfl (by omega) (ws' := [(u, .inl (vA w 2, 1, .inr (.inl (vp_updL f 0 v.toInt64))))] ++ cD w D b c T P G Q A B E) rfl ?_
    refine V.perm (ws' := cD w D b c T P G Q A B E ++ [(u, .inl (vA w 2, 1, .inr (.inl (vp_updL f 0 v.toInt64))))]) List.perm_append_comm ?_
    refine V_goto 17 dL_journal_10 (by decide) ?_
    refine V_iconst 0 dL_journal_17 (by decide) ?_
    refine V.noT ?_
    exact V_iret dL_journal_18 rfl (nb rfl) (nb rfl) ⟨by rw [hs], by rw [hs]⟩
