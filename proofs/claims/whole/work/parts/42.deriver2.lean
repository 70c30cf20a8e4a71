/-! 42: CashDeriver: pieces, traced, and what changes the book -/
theorem prt_le {am : Nat → Int32} {n : Nat} (h1 : 1 ≤ n) (hn : n ≤ 6) : ∀ (m : Nat) (x : Bool) (v : Nat → Nat) (s : Nat → Int32) (best : Nat) (f : Nat → Int32), okV v → best ≤ 6 → (prt am n m x v s best f).2.2.1 ≤ 6
  | 0, _, v, s, best, f, _, hb => hb
  | m + 1, false, v, s, best, f, _, hb => hb
  | m + 1, true, v, s, best, f, hv, hb => by
    rw [prt]
    refine prt_le h1 hn m _ _ _ _ _ (okV_nx hv (by omega)) ?_
    split
    · exact grp_le hv hn
    · exact hb
theorem okJ_cgs : ∀ {m g : Nat} {l : Nat → Int32} {J : JP}, okJ J → okJ (cgs m g l J).2
  | 0, _, _, _, h => h
  | m + 1, g, l, J, h => by
    rw [cgs]
    exact okJ_cgs (okJ_cg h)
/-- a journal's groups and pieces made anew -/
def stl (J : JP) (G : GP) : GP × JP := (((prtR J G.1 G.2.1).1, (prtR J G.1 G.2.1).2.1, (cutR (jD J (prtR J G.1 G.2.1).2.2.1 (prtR J G.1 G.2.1).2.2.2) G.2.2).1), (cutR (jD J (prtR J G.1 G.2.1).2.2.1 (prtR J G.1 G.2.1).2.2.2) G.2.2).2)
theorem okJ_jD {J : JP} (h : okJ J) (h2 : 2 ≤ J.2.1) (G : GP) : okJ (jD J (prtR J G.1 G.2.1).2.2.1 (prtR J G.1 G.2.1).2.2.2) :=
  ⟨h.1, h.2.1, prt_le (by omega) h.1 203 true _ _ 0 _ (okV_0 _) (by omega)⟩
theorem okJ_stl {J : JP} (h : okJ J) (h2 : 2 ≤ J.2.1) (G : GP) : okJ (stl J G).2 := by
  have h3 := okJ_jD h h2 G
  exact okJ_cgs ⟨h3.1, by show 0 ≤ 6; omega, h3.2.2⟩
theorem okB_setJ {B : BP} (h : okB B) {n : Nat} {J : JP} (hJ : okJ J) : okB (setJ B n J) := by
  refine ⟨h.1, h.2.1, fun k hk => ?_⟩
  show okJ (uX B.2.2.2 n J k)
  by_cases e : k = n
  · subst e; rw [uX_s]; exact hJ
  · rw [uX_n e]; exact h.2.2 k hk
theorem okB_open {B : BP} (h : okB B) (p : Int32) : okB (bOpen B p) := by
  unfold bOpen
  split
  · refine ⟨h.1, by show B.2.1 + 1 ≤ 30; omega, fun k hk => ?_⟩
    show okJ (uX B.2.2.2 B.2.1 (jBegin p (B.2.2.2 B.2.1)) k)
    by_cases e : k = B.2.1
    · subst e; rw [uX_s]; exact ⟨by show 0 ≤ 6; omega, by show 0 ≤ 6; omega, by show 0 ≤ 6; omega⟩
    · rw [uX_n e]; exact h.2.2 k hk
  · exact h
theorem okB_setX {B : BP} (h : okB B) (k : Nat) (x y : Int32) : okB (bSetX B k x y) := by
  unfold bSetX
  split
  · exact h
  · exact h
def dTf (B : BP) (x y m : Int32) : Bool := inA B.1 x && inA B.1 y && decide (x ≠ y) && decide (1 ≤ m) && decide (m ≤ 99999)
def jTra (J : JP) (x y m : Int32) : JP := jAdd (jAdd J x m) y (-m)
theorem jTra_l {J : JP} (h : J.2.1 ≤ 4) (x y m : Int32) : (jTra J x y m).2.1 = J.2.1 + 2 := by
  unfold jTra
  have e1 : (jAdd J x m).2.1 = J.2.1 + 1 := by unfold jAdd; rw [if_pos (by omega)]
  generalize jAdd J x m = K at e1 ⊢
  unfold jAdd
  rw [if_pos (by omega)]
  show K.2.1 + 1 = _
  omega
abbrev AGB : Type := GP × AP × BP
def dPost (s : AGB) (p x y m : Int32) : Int32 × AGB := if dPe p = true ∧ dTf s.2.2 x y m = true then (if s.2.2.2.1 < 30 then (nI s.2.2.2.1, (stl (jTra ((bOpen s.2.2 p).2.2.2 s.2.2.2.1) x y m) s.1).1, aKeep s.2.1 0 (nI s.2.2.2.1) (-1), setJ (bOpen s.2.2 p) s.2.2.2.1 (stl (jTra ((bOpen s.2.2 p).2.2.2 s.2.2.2.1) x y m) s.1).2) else (-2, s)) else (-1, s)
def dMore (s : AGB) (j x y m : Int32) : Int32 × AGB := if inR s.2.2.2.1 j = true ∧ dTf s.2.2 x y m = true then (if (s.2.2.2.2.2 j.toNatClampNeg).2.1 ≤ 4 then (nI (stl (jTra (s.2.2.2.2.2 j.toNatClampNeg) x y m) s.1).2.2.1, (stl (jTra (s.2.2.2.2.2 j.toNatClampNeg) x y m) s.1).1, aKeep s.2.1 1 j (-1), setJ s.2.2 j.toNatClampNeg (stl (jTra (s.2.2.2.2.2 j.toNatClampNeg) x y m) s.1).2) else (-2, s)) else (-1, s)
def dStr (s : AGB) (j : Int32) : Int32 × AGB := if inR s.2.2.2.1 j = true then (bi (!(s.2.2.2.2.2 j.toNatClampNeg).2.2.2.2.1), s.1, aKeep s.2.1 2 j (-1), setJ s.2.2 j.toNatClampNeg (jTog (s.2.2.2.2.2 j.toNatClampNeg))) else (-1, s)
def dTel (s : AGB) (x y : Int32) : Bool × AGB := if inA s.2.2.1 x = true ∧ -9999999 ≤ y ∧ y ≤ 9999999 then (true, s.1, aKeep s.2.1 3 x (bTold s.2.2 x), bSetX s.2.2 2 x y) else (false, s)
def dTur (s : AGB) (x y : Int32) : Int32 × AGB := if inA s.2.2.1 x = true ∧ 0 ≤ y ∧ y < 6 then (bKind s.2.2 x, s.1, aKeep s.2.1 4 x (bKind s.2.2 x), bSetX s.2.2 0 x y) else (-1, s)
/-- an act taken back -/
def dTkb (G : GP) (B : BP) (so tg bf : Int32) : GP × BP := if so = 0 then (G, (B.1, B.2.1 - 1, B.2.2)) else if so = 1 then (if inR B.2.1 tg = true then ((stl (jDrop (B.2.2.2 tg.toNatClampNeg)) G).1, setJ B tg.toNatClampNeg (stl (jDrop (B.2.2.2 tg.toNatClampNeg)) G).2) else (G, B)) else if so = 2 then (if inR B.2.1 tg = true then (G, setJ B tg.toNatClampNeg (jTog (B.2.2.2 tg.toNatClampNeg))) else (G, B)) else if so = 3 then (G, bSetX B 2 tg bf) else if so = 4 then (G, bSetX B 0 tg bf) else (G, B)
def dUnd (s : AGB) : Int32 × AGB := if s.2.1.1 = 0 then (-1, s) else (nI (s.2.1.1 - 1), (dTkb s.1 s.2.2 (s.2.1.2 0 (s.2.1.1 - 1)) (s.2.1.2 1 (s.2.1.1 - 1)) (s.2.1.2 2 (s.2.1.1 - 1))).1, (s.2.1.1 - 1, s.2.1.2), (dTkb s.1 s.2.2 (s.2.1.2 0 (s.2.1.1 - 1)) (s.2.1.2 1 (s.2.1.1 - 1)) (s.2.1.2 2 (s.2.1.1 - 1))).2)
theorem inN_in {n : Nat} {x : Int32} (hn : n ≤ 6) (h0 : ¬ x < 0) (h1 : x < nI n) : inN n x = true := by
  obtain ⟨j, hj, rfl⟩ := nI_of h0
  have h2 := (nI_ltI hj (by omega)).mp h1
  have h3 := (nI_ltI (a := j) (b := 6) (by omega) (by omega)).mpr (by omega)
  simp only [inN, Bool.and_eq_true, decide_eq_true_eq, Bool.not_eq_true', decide_eq_false_iff_not]
  exact ⟨⟨h0, h1⟩, h3⟩
theorem nI_cl {n : Nat} (h : n < 30) : (nI n).toNatClampNeg = n := nI_clamp (by omega)
theorem setJ_setJ (B : BP) (n : Nat) (J J' : JP) : setJ (setJ B n J) n J' = setJ B n J' := by
  unfold setJ
  refine congrArg (fun z => (B.1, B.2.1, B.2.2.1, z)) (funext fun k => ?_)
  by_cases e : k = n
  · subst e; rw [uX_s, uX_s]
  · rw [uX_n e, uX_n e]; exact uX_n e
theorem setJ_at (B : BP) (n : Nat) (J : JP) : (setJ B n J).2.2.2 n = J := uX_s

set_option maxRecDepth 100000 in
set_option maxHeartbeats 4000000 in
theorem c_D_traced (w : vWd) (D : DW) (b c : DB) (T : TP) (P : RP) (G : GP) (Q : SP) (A : AP) (B E : BP) (hB : okB B) : Ct w mX7_traced 7 0 0 [.ref (D.1)] (cD w D b c T P G Q A B E) (qE (some (.int (tR (tQ B Q)))) (cD w D b c T P G (tQ B Q) A B E)) := by
  refine Ct.of (L := [(0, .ref (D.1))]) (by decide) rfl rfl ?_
  refine V_aload_n dX7_traced_0 0 rfl ?_
  refine V_get dX7_traced_1 fX7_35 0 rfl rfl ?_
  refine V_aload_n dX7_traced_4 0 rfl ?_
  refine V_get dX7_traced_5 fX7_49 0 rfl rfl ?_
  refine V_partE (ws' := cD w D b c T P G (tQ B Q) A B E) dX7_traced_8 lX7_210 _ (c_S_trace w D.2.2.2.2.1 D.2.2.2.2.2.1 Q b.1 b.2 B hB) D_QB D_QB.symm rfl rfl 0 rfl rfl rfl rfl ?_
  exact V_iret dX7_traced_11 rfl (nb rfl) (nb rfl) ⟨rfl, rfl⟩

set_option maxRecDepth 100000 in
set_option maxHeartbeats 4000000 in
theorem c_D_piece (w : vWd) (D : DW) (b c : DB) (T : TP) (P : RP) (G : GP) (Q : SP) (A : AP) (B E : BP) (j : Int32) (k : Int32) (x : Int32) (hB : okB B) : Ct w mX7_piece 4 0 0 [.ref (D.1), .int j, .int k, .int x] (cD w D b c T P G Q A B E) (qE (some (.int (dPie B j k x))) (cD w D b c T P G Q A B E)) := by
  refine Ct.of (L := [(0, .ref (D.1)), (1, .int j), (2, .int k), (3, .int x)]) (by decide) rfl rfl ?_
  refine V_aload_n dX7_piece_0 0 rfl ?_
  refine V_get dX7_piece_1 fX7_49 0 rfl rfl ?_
  refine V_iload_n dX7_piece_4 1 rfl ?_
  refine V_partR dX7_piece_5 lX7_81 _ (c_B_find w b.1 b.2 B j hB) D_B rfl rfl 0 rfl rfl rfl rfl ?_
  rcases bRef_cs hB b.2 j with ⟨hf, he⟩ | ⟨n, hn, hx, hi, he⟩
  · refine V_castv (y := .null) he ?_
    refine V_astoreN dX7_piece_8 rfl (L' := [(0, .ref (D.1)), (1, .int j), (2, .int k), (3, .int x), (4, .null)]) rfl ?_
    refine V_aloadN dX7_piece_10 4 rfl ?_
    refine V_ifnullN 28 dX7_piece_12 (by decide) ?_
    refine V_iconst (-1) dX7_piece_28 (by decide) ?_
    exact V_iret dX7_piece_29 rfl (nb rfl) (nb rfl) ⟨by show some (Value.int (-1)) = some (Value.int (dPie B j k x)); rw [dPie, if_neg (fun z => by rw [hf] at z; exact absurd z.1 (by decide))], rfl⟩
  · refine V_castv (y := .ref (b.2 n 0)) he ?_
    have hn30 : n < 30 := by have := hB.2.1; omega
    refine V_astore dX7_piece_8 rfl (L' := [(0, .ref (D.1)), (1, .int j), (2, .int k), (3, .int x), (4, .ref (b.2 n 0))]) rfl ?_
    refine V_aload dX7_piece_10 4 rfl ?_
    refine V_ifnull dX7_piece_12 ?_
    refine V_iload_n dX7_piece_15 2 rfl ?_
    refine V_if_lt 28 dX7_piece_16 (by decide) (fun zc1 => ?_) (fun zc1 => ?_)
    · refine V_iconst (-1) dX7_piece_28 (by decide) ?_
      refine V_iret dX7_piece_29 rfl (nb rfl) (nb rfl) ?_
      have h6 := (hB.2.2 n hn30).2.1
      refine ⟨?_, rfl⟩
      show some (Value.int ((-1))) = some (Value.int (dPie B j k x))
      refine congrArg (fun z => some (Value.int z)) ?_
      have hcl : j.toNatClampNeg = n := by rw [hx]; exact nI_cl hn30
      clear hB
      rw [dPie, hcl]
      have h6l : (nI (B.2.2.2 n).2.2.2.1 : Int32) ≤ 6 := (nI_leI (b := 6) (by omega) (by omega)).mpr h6
      grind [inN]
    · refine V_iload_n dX7_piece_19 2 rfl ?_
      refine V_aload dX7_piece_20 4 rfl ?_
      refine V_partR dX7_piece_22 lX7_150 _ (c_J_pieces w (b.2 n) (B.2.2.2 n)) (D_J hn30) rfl rfl 0 rfl rfl rfl rfl ?_
      refine V_icmp_lt 30 dX7_piece_25 (by decide) (fun zc2 => ?_) (fun zc2 => ?_)
      · refine V_iload_n dX7_piece_30 3 rfl ?_
        by_cases zc3 : x = 0
        · refine V_tabIn 60 dX7_piece_31 (by rw [zc3]; decide) (by rw [zc3]; decide) (by rw [zc3]; rfl) (by decide) ?_
          refine V_aload dX7_piece_60 4 rfl ?_
          refine V_iload_n dX7_piece_62 2 rfl ?_
          refine V_partR dX7_piece_63 lX7_168 _ (c_J_creditedOf w (b.2 n) (B.2.2.2 n) k (hB.2.2 n hn30)) (D_J hn30) rfl rfl 0 rfl rfl rfl rfl ?_
          refine V_iret dX7_piece_66 rfl (nb rfl) (nb rfl) ?_
          have h6 := (hB.2.2 n hn30).2.1
          refine ⟨?_, rfl⟩
          show some (Value.int (jCre (B.2.2.2 n) k)) = some (Value.int (dPie B j k x))
          refine congrArg (fun z => some (Value.int z)) ?_
          have hcl : j.toNatClampNeg = n := by rw [hx]; exact nI_cl hn30
          clear hB
          rw [dPie, hcl]
          have h6l : (nI (B.2.2.2 n).2.2.2.1 : Int32) ≤ 6 := (nI_leI (b := 6) (by omega) (by omega)).mpr h6
          grind [inN]
        by_cases zc4 : x = 1
        · refine V_tabIn 67 dX7_piece_31 (by rw [zc4]; decide) (by rw [zc4]; decide) (by rw [zc4]; rfl) (by decide) ?_
          refine V_aload dX7_piece_67 4 rfl ?_
          refine V_iload_n dX7_piece_69 2 rfl ?_
          refine V_partR dX7_piece_70 lX7_171 _ (c_J_debitedOf w (b.2 n) (B.2.2.2 n) k (hB.2.2 n hn30)) (D_J hn30) rfl rfl 0 rfl rfl rfl rfl ?_
          refine V_iret dX7_piece_73 rfl (nb rfl) (nb rfl) ?_
          have h6 := (hB.2.2 n hn30).2.1
          refine ⟨?_, rfl⟩
          show some (Value.int (jDeb (B.2.2.2 n) k)) = some (Value.int (dPie B j k x))
          refine congrArg (fun z => some (Value.int z)) ?_
          have hcl : j.toNatClampNeg = n := by rw [hx]; exact nI_cl hn30
          clear hB
          rw [dPie, hcl]
          have h6l : (nI (B.2.2.2 n).2.2.2.1 : Int32) ≤ 6 := (nI_leI (b := 6) (by omega) (by omega)).mpr h6
          grind [inN]
        by_cases zc5 : x = 2
        · refine V_tabIn 74 dX7_piece_31 (by rw [zc5]; decide) (by rw [zc5]; decide) (by rw [zc5]; rfl) (by decide) ?_
          refine V_aload dX7_piece_74 4 rfl ?_
          refine V_iload_n dX7_piece_76 2 rfl ?_
          refine V_partR dX7_piece_77 lX7_174 _ (c_J_movedOf w (b.2 n) (B.2.2.2 n) k (hB.2.2 n hn30)) (D_J hn30) rfl rfl 0 rfl rfl rfl rfl ?_
          refine V_iret dX7_piece_80 rfl (nb rfl) (nb rfl) ?_
          have h6 := (hB.2.2 n hn30).2.1
          refine ⟨?_, rfl⟩
          show some (Value.int (jMov (B.2.2.2 n) k)) = some (Value.int (dPie B j k x))
          refine congrArg (fun z => some (Value.int z)) ?_
          have hcl : j.toNatClampNeg = n := by rw [hx]; exact nI_cl hn30
          clear hB
          rw [dPie, hcl]
          have h6l : (nI (B.2.2.2 n).2.2.2.1 : Int32) ≤ 6 := (nI_leI (b := 6) (by omega) (by omega)).mpr h6
          grind [inN]
        by_cases zc6 : x = 3
        · refine V_tabIn 81 dX7_piece_31 (by rw [zc6]; decide) (by rw [zc6]; decide) (by rw [zc6]; rfl) (by decide) ?_
          refine V_aload_n dX7_piece_81 0 rfl ?_
          refine V_get dX7_piece_82 fX7_49 0 rfl rfl ?_
          refine V_aload dX7_piece_85 4 rfl ?_
          refine V_iload_n dX7_piece_87 2 rfl ?_
          obtain ⟨kk, hk, hkl⟩ := inN_true (n := (B.2.2.2 n).2.2.2.1) (hB.2.2 n hn30).2.1 (x := k) (inN_in (hB.2.2 n hn30).2.1 (by assumption) (by assumption))
          subst hk
          refine V_partR dX7_piece_88 lX7_177 _ (c_B_sortOf w b.1 b.2 B n kk hn30 hkl hB) D_B rfl rfl 0 rfl rfl rfl rfl ?_
          refine V_iret dX7_piece_91 rfl (nb rfl) (nb rfl) ?_
          have h6 := (hB.2.2 n hn30).2.1
          refine ⟨?_, rfl⟩
          show some (Value.int (bSort B n kk)) = some (Value.int (dPie B j (nI kk) x))
          refine congrArg (fun z => some (Value.int z)) ?_
          have hcl : j.toNatClampNeg = n := by rw [hx]; exact nI_cl hn30
          have hkc : (nI kk).toNatClampNeg = kk := nI_clamp (by omega)
          have hin : inN (B.2.2.2 n).2.2.2.1 (nI kk) = true := by
            have e1 := (nI_ltI (a := kk) (b := (B.2.2.2 n).2.2.2.1) (by omega) (by omega)).mpr hkl
            have e2 := (nI_ltI (a := kk) (b := 6) (by omega) (by omega)).mpr (by omega)
            have e3 := nI_pos (n := kk) (by omega)
            clear hB
            simp only [inN, Bool.and_eq_true, decide_eq_true_eq, Bool.not_eq_true', decide_eq_false_iff_not]
            exact ⟨⟨e3, e1⟩, e2⟩
          rw [dPie, hcl, hkc]
          clear hB
          grind
        refine V_tabOut 92 dX7_piece_31 (v_out3 zc3 zc4 zc5 zc6) (by decide) ?_
        refine V_iconst (-1) dX7_piece_92 (by decide) ?_
        refine V_iret dX7_piece_93 rfl (nb rfl) (nb rfl) ?_
        have h6 := (hB.2.2 n hn30).2.1
        refine ⟨?_, rfl⟩
        show some (Value.int ((-1))) = some (Value.int (dPie B j k x))
        refine congrArg (fun z => some (Value.int z)) ?_
        have hcl : j.toNatClampNeg = n := by rw [hx]; exact nI_cl hn30
        clear hB
        rw [dPie, hcl]
        have h6l : (nI (B.2.2.2 n).2.2.2.1 : Int32) ≤ 6 := (nI_leI (b := 6) (by omega) (by omega)).mpr h6
        grind [inN]
      · refine V_iconst (-1) dX7_piece_28 (by decide) ?_
        refine V_iret dX7_piece_29 rfl (nb rfl) (nb rfl) ?_
        have h6 := (hB.2.2 n hn30).2.1
        refine ⟨?_, rfl⟩
        show some (Value.int ((-1))) = some (Value.int (dPie B j k x))
        refine congrArg (fun z => some (Value.int z)) ?_
        have hcl : j.toNatClampNeg = n := by rw [hx]; exact nI_cl hn30
        clear hB
        rw [dPie, hcl]
        have h6l : (nI (B.2.2.2 n).2.2.2.1 : Int32) ≤ 6 := (nI_leI (b := 6) (by omega) (by omega)).mpr h6
        grind [inN]

set_option maxRecDepth 100000 in
set_option maxHeartbeats 4000000 in
theorem c_D_isTransfer (w : vWd) (D : DW) (b c : DB) (T : TP) (P : RP) (G : GP) (Q : SP) (A : AP) (B E : BP) (x : Int32) (y : Int32) (m : Int32) : Ct w mX7_isTransfer 1 0 0 [.ref (D.1), .int x, .int y, .int m] (cD w D b c T P G Q A B E) (qE (some (.int (bi (dTf B x y m)))) (cD w D b c T P G Q A B E)) := by
  refine Ct.of (L := [(0, .ref (D.1)), (1, .int x), (2, .int y), (3, .int m)]) (by decide) rfl rfl ?_
  refine V_aload_n dX7_isTransfer_0 0 rfl ?_
  refine V_get dX7_isTransfer_1 fX7_49 0 rfl rfl ?_
  refine V_iload_n dX7_isTransfer_4 1 rfl ?_
  refine V_partR dX7_isTransfer_5 lX7_105 _ (c_B_hasAccount w b.1 b.2 B x ) D_B rfl rfl 0 rfl rfl rfl rfl ?_
  refine V_ifeq_b 43 dX7_isTransfer_8 (by decide) (fun zc1 => ?_) (fun zc1 => ?_)
  · refine V_iconst 0 dX7_isTransfer_43 (by decide) ?_
    exact V_zret dX7_isTransfer_44 rfl rfl (nb rfl) (nb rfl) ⟨by show some (Value.int (0)) = _; refine congrArg (fun z => some (Value.int z)) ?_; grind [bi, dTf], rfl⟩
  · refine V_aload_n dX7_isTransfer_11 0 rfl ?_
    refine V_get dX7_isTransfer_12 fX7_49 0 rfl rfl ?_
    refine V_iload_n dX7_isTransfer_15 2 rfl ?_
    refine V_partR dX7_isTransfer_16 lX7_105 _ (c_B_hasAccount w b.1 b.2 B y ) D_B rfl rfl 0 rfl rfl rfl rfl ?_
    refine V_ifeq_b 43 dX7_isTransfer_19 (by decide) (fun zc2 => ?_) (fun zc2 => ?_)
    · refine V_iconst 0 dX7_isTransfer_43 (by decide) ?_
      exact V_zret dX7_isTransfer_44 rfl rfl (nb rfl) (nb rfl) ⟨by show some (Value.int (0)) = _; refine congrArg (fun z => some (Value.int z)) ?_; grind [bi, dTf], rfl⟩
    · refine V_iload_n dX7_isTransfer_22 1 rfl ?_
      refine V_iload_n dX7_isTransfer_23 2 rfl ?_
      refine V_icmp_eq 43 dX7_isTransfer_24 (by decide) (fun zc3 => ?_) (fun zc3 => ?_)
      · refine V_iconst 0 dX7_isTransfer_43 (by decide) ?_
        exact V_zret dX7_isTransfer_44 rfl rfl (nb rfl) (nb rfl) ⟨by show some (Value.int (0)) = _; refine congrArg (fun z => some (Value.int z)) ?_; grind [bi, dTf], rfl⟩
      · refine V_iload_n dX7_isTransfer_27 3 rfl ?_
        refine V_iconst 1 dX7_isTransfer_28 (by decide) ?_
        refine V_icmp_lt 43 dX7_isTransfer_29 (by decide) (fun zc4 => ?_) (fun zc4 => ?_)
        · refine V_iconst 0 dX7_isTransfer_43 (by decide) ?_
          exact V_zret dX7_isTransfer_44 rfl rfl (nb rfl) (nb rfl) ⟨by show some (Value.int (0)) = _; refine congrArg (fun z => some (Value.int z)) ?_; grind [bi, dTf], rfl⟩
        · refine V_iload_n dX7_isTransfer_32 3 rfl ?_
          refine V_ldcw dX7_isTransfer_33 kX7_256 ?_
          refine V_icmp_gt 43 dX7_isTransfer_36 (by decide) (fun zc5 => ?_) (fun zc5 => ?_)
          · refine V_iconst 0 dX7_isTransfer_43 (by decide) ?_
            exact V_zret dX7_isTransfer_44 rfl rfl (nb rfl) (nb rfl) ⟨by show some (Value.int (0)) = _; refine congrArg (fun z => some (Value.int z)) ?_; grind [bi, dTf], rfl⟩
          · refine V_iconst 1 dX7_isTransfer_39 (by decide) ?_
            refine V_goto 44 dX7_isTransfer_40 (by decide) ?_
            exact V_zret dX7_isTransfer_44 rfl rfl (nb rfl) (nb rfl) ⟨by show some (Value.int (1)) = _; refine congrArg (fun z => some (Value.int z)) ?_; grind [bi, dTf], rfl⟩

theorem v_s1 {d : Nat × va_E} {x y : va_W} : ((d :: x) ++ y).Perm ((x ++ y) ++ [d]) := (List.perm_append_singleton d (x ++ y)).symm

set_option maxRecDepth 100000 in
set_option maxHeartbeats 4000000 in
theorem c_D_settle (w : vWd) (D : DW) (b c : DB) (G : GP) (a : Nat → Nat) (J : JP) (hJ : okJ J) (h2 : 2 ≤ J.2.1) : Ct w mX7_settle 5 0 0 [.ref (D.1), .ref (a 0)] ((dO D b c :: xP w D G) ++ cJ w a J) (qE none ((dO D b c :: xP w D ((stl J G).1)) ++ cJ w a ((stl J G).2))) := by
  refine Ct.of (L := [(0, .ref (D.1)), (1, .ref (a 0))]) (by decide) rfl rfl ?_
  refine V_aload_n dX7_settle_0 1 rfl ?_
  refine V_ifnull dX7_settle_1 ?_
  refine V_aload_n dX7_settle_4 0 rfl ?_
  refine V_get dX7_settle_5 fX7_28 0 rfl rfl ?_
  refine V_aload_n dX7_settle_8 1 rfl ?_
  refine V_partE (ws' := (dO D b c :: xP w D ((prtR J G.1 G.2.1).1, (prtR J G.1 G.2.1).2.1, G.2.2)) ++ cJ w a (jD J (prtR J G.1 G.2.1).2.2.1 (prtR J G.1 G.2.1).2.2.2)) dX7_settle_9 lX7_260 [dO D b c] (c_P_part w D.2.2.2.1 a G.1 G.2.1 G.2.2 J hJ h2) v_s1 v_s1.symm rfl rfl 0 rfl rfl rfl rfl ?_
  refine V_aload_n dX7_settle_12 0 rfl ?_
  refine V_get dX7_settle_13 fX7_28 0 rfl rfl ?_
  refine V_aload_n dX7_settle_16 1 rfl ?_
  refine V_partE (ws' := (dO D b c :: xP w D ((stl J G).1)) ++ cJ w a ((stl J G).2)) dX7_settle_17 lX7_263 [dO D b c] (c_P_cut w D.2.2.2.1 a (prtR J G.1 G.2.1).1 (prtR J G.1 G.2.1).2.1 G.2.2 (jD J (prtR J G.1 G.2.1).2.2.1 (prtR J G.1 G.2.1).2.2.2) (okJ_jD hJ h2 G)) v_s1 v_s1.symm rfl rfl 0 rfl rfl rfl rfl ?_
  exact V_vret dX7_settle_20 rfl (nb rfl) (nb rfl) ⟨rfl, rfl⟩

set_option maxRecDepth 100000 in
set_option maxHeartbeats 4000000 in
theorem c_D_addTransfer (w : vWd) (D : DW) (b c : DB) (G : GP) (a : Nat → Nat) (J : JP) (hJ : okJ J) (x y m : Int32) (h4 : J.2.1 ≤ 4) : Ct w mX7_addTransfer 6 0 0 [.ref (D.1), .ref (a 0), .int x, .int y, .int m] ((dO D b c :: xP w D G) ++ cJ w a J) (qE none ((dO D b c :: xP w D ((stl (jTra J x y m) G).1)) ++ cJ w a ((stl (jTra J x y m) G).2))) := by
  refine Ct.of (L := [(0, .ref (D.1)), (1, .ref (a 0)), (2, .int x), (3, .int y), (4, .int m)]) (by decide) rfl rfl ?_
  refine V_aload_n dX7_addTransfer_0 1 rfl ?_
  refine V_iload_n dX7_addTransfer_1 2 rfl ?_
  refine V_iload dX7_addTransfer_2 4 rfl ?_
  refine V_partE (ws' := (dO D b c :: xP w D G) ++ cJ w a (jAdd J x m)) dX7_addTransfer_4 lX7_257 (dO D b c :: xP w D G) (c_J_add w a J x m hJ) List.perm_append_comm List.perm_append_comm rfl rfl 0 rfl rfl rfl rfl ?_
  refine V_aload_n dX7_addTransfer_7 1 rfl ?_
  refine V_iload_n dX7_addTransfer_8 3 rfl ?_
  refine V_iload dX7_addTransfer_9 4 rfl ?_
  refine V_ineg dX7_addTransfer_11 ?_
  refine V_partE (ws' := (dO D b c :: xP w D G) ++ cJ w a (jAdd (jAdd J x m) y (-m))) dX7_addTransfer_12 lX7_257 (dO D b c :: xP w D G) (c_J_add w a (jAdd J x m) y (-m) (okJ_add hJ)) List.perm_append_comm List.perm_append_comm rfl rfl 0 rfl rfl rfl rfl ?_
  refine V_aload_n dX7_addTransfer_15 0 rfl ?_
  refine V_aload_n dX7_addTransfer_16 1 rfl ?_
  refine V_selfE (ws' := (dO D b c :: xP w D ((stl (jTra J x y m) G).1)) ++ cJ w a ((stl (jTra J x y m) G).2)) dX7_addTransfer_17 lX7_85 (c_D_settle w D b c G a (jTra J x y m) (okJ_add (okJ_add hJ)) (by rw [jTra_l h4]; omega)) rfl rfl 0 rfl rfl rfl rfl ?_
  exact V_vret dX7_addTransfer_20 rfl (nb rfl) (nb rfl) ⟨rfl, rfl⟩

set_option maxRecDepth 100000 in
set_option maxHeartbeats 4000000 in
theorem c_D_tell (w : vWd) (D : DW) (b c : DB) (T : TP) (P : RP) (G : GP) (Q : SP) (A : AP) (B E : BP) (x : Int32) (y : Int32) (hA : A.1 ≤ 10) (hB : okB B) : Ct w mX7_tell 2 0 0 [.ref (D.1), .int x, .int y] (cD w D b c T P G Q A B E) (qE (some (.int (bi (dTel (G, A, B) x y).1))) (cD w D b c T P (dTel (G, A, B) x y).2.1 Q (dTel (G, A, B) x y).2.2.1 (dTel (G, A, B) x y).2.2.2 E)) := by
  refine Ct.of (L := [(0, .ref (D.1)), (1, .int x), (2, .int y)]) (by decide) rfl rfl ?_
  refine V_aload_n dX7_tell_0 0 rfl ?_
  refine V_get dX7_tell_1 fX7_49 0 rfl rfl ?_
  refine V_iload_n dX7_tell_4 1 rfl ?_
  refine V_partR dX7_tell_5 lX7_105 _ (c_B_hasAccount w b.1 b.2 B x ) D_B rfl rfl 0 rfl rfl rfl rfl ?_
  refine V_ifeq_b 23 dX7_tell_8 (by decide) (fun zc1 => ?_) (fun zc1 => ?_)
  · refine V_iconst 0 dX7_tell_23 (by decide) ?_
    refine V_zret dX7_tell_24 rfl rfl (nb rfl) (nb rfl) ?_
    have hs : dTel (G, A, B) x y = (false, G, A, B) := by
      unfold dTel
      clear hB hA
      first
      | rw [if_pos (by grind), if_pos (by grind)]
      | rw [if_pos (by grind), if_neg (by grind)]
      | rw [if_pos (by grind)]
      | rw [if_neg (by grind)]
    exact ⟨by rw [hs]; rfl, by rw [hs]⟩
  · refine V_iload_n dX7_tell_11 2 rfl ?_
    refine V_ldc dX7_tell_12 kX7_232 ?_
    refine V_icmp_lt 23 dX7_tell_14 (by decide) (fun zc2 => ?_) (fun zc2 => ?_)
    · refine V_iconst 0 dX7_tell_23 (by decide) ?_
      refine V_zret dX7_tell_24 rfl rfl (nb rfl) (nb rfl) ?_
      have hs : dTel (G, A, B) x y = (false, G, A, B) := by
        unfold dTel
        clear hB hA
        first
        | rw [if_pos (by grind), if_pos (by grind)]
        | rw [if_pos (by grind), if_neg (by grind)]
        | rw [if_pos (by grind)]
        | rw [if_neg (by grind)]
      exact ⟨by rw [hs]; rfl, by rw [hs]⟩
    · refine V_iload_n dX7_tell_17 2 rfl ?_
      refine V_ldc dX7_tell_18 kX7_233 ?_
      refine V_icmp_le 25 dX7_tell_20 (by decide) (fun zc3 => ?_) (fun zc3 => ?_)
      · refine V_aload_n dX7_tell_25 0 rfl ?_
        refine V_get dX7_tell_26 fX7_42 0 rfl rfl ?_
        refine V_iconst 3 dX7_tell_29 (by decide) ?_
        refine V_iload_n dX7_tell_30 1 rfl ?_
        refine V_aload_n dX7_tell_31 0 rfl ?_
        refine V_get dX7_tell_32 fX7_49 0 rfl rfl ?_
        refine V_iload_n dX7_tell_35 1 rfl ?_
        refine V_partR dX7_tell_36 lX7_129 _ (c_B_toldOf w b.1 b.2 B x hB) D_B rfl rfl 0 rfl rfl rfl rfl ?_
        refine V_partE (ws' := cD w D b c T P G Q (aKeep A 3 x (bTold B x)) B E) dX7_tell_39 lX7_225 _ (c_A_keep w D.2.2.2.2.2.2 A 3 x (bTold B x) hA) D_A (D_A).symm rfl rfl 0 rfl rfl rfl rfl ?_
        refine V_aload_n dX7_tell_42 0 rfl ?_
        refine V_get dX7_tell_43 fX7_49 0 rfl rfl ?_
        refine V_iload_n dX7_tell_46 1 rfl ?_
        refine V_iload_n dX7_tell_47 2 rfl ?_
        refine V_partE (ws' := cD w D b c T P G Q (aKeep A 3 x (bTold B x)) (bSetX B 2 x y) E) dX7_tell_48 lX7_234 _ (c_B_setTold w b.1 b.2 B x y hB) D_B (D_B).symm rfl rfl 0 rfl rfl rfl rfl ?_
        refine V_iconst 1 dX7_tell_51 (by decide) ?_
        refine V_zret dX7_tell_52 rfl rfl (nb rfl) (nb rfl) ?_
        have hs : dTel (G, A, B) x y = (true, G, (aKeep A 3 x (bTold B x)), (bSetX B 2 x y)) := by
          unfold dTel
          clear hB hA
          first
          | rw [if_pos (by grind), if_pos (by grind)]
          | rw [if_pos (by grind), if_neg (by grind)]
          | rw [if_pos (by grind)]
          | rw [if_neg (by grind)]
        exact ⟨by rw [hs]; rfl, by rw [hs]⟩
      · refine V_iconst 0 dX7_tell_23 (by decide) ?_
        refine V_zret dX7_tell_24 rfl rfl (nb rfl) (nb rfl) ?_
        have hs : dTel (G, A, B) x y = (false, G, A, B) := by
          unfold dTel
          clear hB hA
          first
          | rw [if_pos (by grind), if_pos (by grind)]
          | rw [if_pos (by grind), if_neg (by grind)]
          | rw [if_pos (by grind)]
          | rw [if_neg (by grind)]
        exact ⟨by rw [hs]; rfl, by rw [hs]⟩

set_option maxRecDepth 100000 in
set_option maxHeartbeats 4000000 in
theorem c_D_turn (w : vWd) (D : DW) (b c : DB) (T : TP) (P : RP) (G : GP) (Q : SP) (A : AP) (B E : BP) (x : Int32) (y : Int32) (hA : A.1 ≤ 10) (hB : okB B) : Ct w mX7_turn 2 0 0 [.ref (D.1), .int x, .int y] (cD w D b c T P G Q A B E) (qE (some (.int (dTur (G, A, B) x y).1)) (cD w D b c T P (dTur (G, A, B) x y).2.1 Q (dTur (G, A, B) x y).2.2.1 (dTur (G, A, B) x y).2.2.2 E)) := by
  refine Ct.of (L := [(0, .ref (D.1)), (1, .int x), (2, .int y)]) (by decide) rfl rfl ?_
  refine V_aload_n dX7_turn_0 0 rfl ?_
  refine V_get dX7_turn_1 fX7_49 0 rfl rfl ?_
  refine V_iload_n dX7_turn_4 1 rfl ?_
  refine V_partR dX7_turn_5 lX7_105 _ (c_B_hasAccount w b.1 b.2 B x ) D_B rfl rfl 0 rfl rfl rfl rfl ?_
  refine V_ifeq_b 21 dX7_turn_8 (by decide) (fun zc1 => ?_) (fun zc1 => ?_)
  · refine V_iconst (-1) dX7_turn_21 (by decide) ?_
    refine V_iret dX7_turn_22 rfl (nb rfl) (nb rfl) ?_
    have hs : dTur (G, A, B) x y = ((-1), G, A, B) := by
      unfold dTur
      clear hB hA
      first
      | rw [if_pos (by grind), if_pos (by grind)]
      | rw [if_pos (by grind), if_neg (by grind)]
      | rw [if_pos (by grind)]
      | rw [if_neg (by grind)]
    exact ⟨by rw [hs], by rw [hs]⟩
  · refine V_iload_n dX7_turn_11 2 rfl ?_
    refine V_if_lt 21 dX7_turn_12 (by decide) (fun zc2 => ?_) (fun zc2 => ?_)
    · refine V_iconst (-1) dX7_turn_21 (by decide) ?_
      refine V_iret dX7_turn_22 rfl (nb rfl) (nb rfl) ?_
      have hs : dTur (G, A, B) x y = ((-1), G, A, B) := by
        unfold dTur
        clear hB hA
        first
        | rw [if_pos (by grind), if_pos (by grind)]
        | rw [if_pos (by grind), if_neg (by grind)]
        | rw [if_pos (by grind)]
        | rw [if_neg (by grind)]
      exact ⟨by rw [hs], by rw [hs]⟩
    · refine V_iload_n dX7_turn_15 2 rfl ?_
      refine V_bipush 6 dX7_turn_16 (by decide) ?_
      refine V_icmp_lt 23 dX7_turn_18 (by decide) (fun zc3 => ?_) (fun zc3 => ?_)
      · refine V_aload_n dX7_turn_23 0 rfl ?_
        refine V_get dX7_turn_24 fX7_49 0 rfl rfl ?_
        refine V_iload_n dX7_turn_27 1 rfl ?_
        refine V_partR dX7_turn_28 lX7_115 _ (c_B_kindOf w b.1 b.2 B x hB) D_B rfl rfl 0 rfl rfl rfl rfl ?_
        refine V_istore_n dX7_turn_31 rfl (L' := [(0, .ref (D.1)), (1, .int x), (2, .int y), (3, .int (bKind B x))]) rfl ?_
        refine V_aload_n dX7_turn_32 0 rfl ?_
        refine V_get dX7_turn_33 fX7_42 0 rfl rfl ?_
        refine V_iconst 4 dX7_turn_36 (by decide) ?_
        refine V_iload_n dX7_turn_37 1 rfl ?_
        refine V_iload_n dX7_turn_38 3 rfl ?_
        refine V_partE (ws' := cD w D b c T P G Q (aKeep A 4 x (bKind B x)) B E) dX7_turn_39 lX7_225 _ (c_A_keep w D.2.2.2.2.2.2 A 4 x (bKind B x) hA) D_A (D_A).symm rfl rfl 0 rfl rfl rfl rfl ?_
        refine V_aload_n dX7_turn_42 0 rfl ?_
        refine V_get dX7_turn_43 fX7_49 0 rfl rfl ?_
        refine V_iload_n dX7_turn_46 1 rfl ?_
        refine V_iload_n dX7_turn_47 2 rfl ?_
        refine V_partE (ws' := cD w D b c T P G Q (aKeep A 4 x (bKind B x)) (bSetX B 0 x y) E) dX7_turn_48 lX7_238 _ (c_B_setKind w b.1 b.2 B x y hB) D_B (D_B).symm rfl rfl 0 rfl rfl rfl rfl ?_
        refine V_iload_n dX7_turn_51 3 rfl ?_
        refine V_iret dX7_turn_52 rfl (nb rfl) (nb rfl) ?_
        have hs : dTur (G, A, B) x y = (bKind B x, G, (aKeep A 4 x (bKind B x)), (bSetX B 0 x y)) := by
          unfold dTur
          clear hB hA
          first
          | rw [if_pos (by grind), if_pos (by grind)]
          | rw [if_pos (by grind), if_neg (by grind)]
          | rw [if_pos (by grind)]
          | rw [if_neg (by grind)]
        exact ⟨by rw [hs], by rw [hs]⟩
      · refine V_iconst (-1) dX7_turn_21 (by decide) ?_
        refine V_iret dX7_turn_22 rfl (nb rfl) (nb rfl) ?_
        have hs : dTur (G, A, B) x y = ((-1), G, A, B) := by
          unfold dTur
          clear hB hA
          first
          | rw [if_pos (by grind), if_pos (by grind)]
          | rw [if_pos (by grind), if_neg (by grind)]
          | rw [if_pos (by grind)]
          | rw [if_neg (by grind)]
        exact ⟨by rw [hs], by rw [hs]⟩
