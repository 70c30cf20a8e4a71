/-! 43: CashDeriver: post, more, strike, undo -/
theorem post_n {B : BP} {p : Int32} (h : B.2.1 < 30) : nI (bOpen B p).2.1 - 1 = nI B.2.1 := by
  rw [bOpen, if_pos h]
  show nI (B.2.1 + 1) - 1 = nI B.2.1
  rw [← nI_1 B.2.1]
  exact Int32.add_sub_cancel _ _
theorem post_0 {B : BP} {p : Int32} (h : B.2.1 < 30) : (bOpen B p).2.2.2 B.2.1 = jBegin p (B.2.2.2 B.2.1) := by
  rw [bOpen, if_pos h]
  exact uX_s

set_option maxRecDepth 100000 in
set_option maxHeartbeats 4000000 in
theorem c_D_strike (w : vWd) (D : DW) (b c : DB) (T : TP) (P : RP) (G : GP) (Q : SP) (A : AP) (B E : BP) (j : Int32) (hA : A.1 ≤ 10) (hB : okB B) : Ct w mX7_strike 2 0 0 [.ref (D.1), .int j] (cD w D b c T P G Q A B E) (qE (some (.int (dStr (G, A, B) j).1)) (cD w D b c T P (dStr (G, A, B) j).2.1 Q (dStr (G, A, B) j).2.2.1 (dStr (G, A, B) j).2.2.2 E)) := by
  refine Ct.of (L := [(0, .ref (D.1)), (1, .int j)]) (by decide) rfl rfl ?_
  refine V_aload_n dX7_strike_0 0 rfl ?_
  refine V_get dX7_strike_1 fX7_49 0 rfl rfl ?_
  refine V_iload_n dX7_strike_4 1 rfl ?_
  refine V_partR dX7_strike_5 lX7_81 _ (c_B_find w b.1 b.2 B j hB) D_B rfl rfl 0 rfl rfl rfl rfl ?_
  rcases bRef_cs hB b.2 j with ⟨hf, he⟩ | ⟨n, hn, hx, hi, he⟩
  · refine V_castv (y := .null) he ?_
    refine V_astore_nN dX7_strike_8 rfl (L' := [(0, .ref (D.1)), (1, .int j), (2, .null)]) rfl ?_
    refine V_aload_nN dX7_strike_9 2 rfl ?_
    refine V_ifnonnullN dX7_strike_10 ?_
    refine V_iconst (-1) dX7_strike_13 (by decide) ?_
    refine V_iret dX7_strike_14 rfl (nb rfl) (nb rfl) ?_
    have hs : dStr (G, A, B) j = ((-1), G, A, B) := by
      unfold dStr
      rw [if_neg (by rw [hf]; decide)]
    exact ⟨by rw [hs], by rw [hs]⟩
  · refine V_castv (y := .ref (b.2 n 0)) he ?_
    have hn30 : n < 30 := by have := hB.2.1; omega
    have h6l := (hB.2.2 n hn30).1
    refine V_astore_n dX7_strike_8 rfl (L' := [(0, .ref (D.1)), (1, .int j), (2, .ref (b.2 n 0))]) rfl ?_
    refine V_aload_n dX7_strike_9 2 rfl ?_
    refine V_ifnonnull 15 dX7_strike_10 (by decide) ?_
    refine V_aload_n dX7_strike_15 2 rfl ?_
    refine V_partE (ws' := cD w D b c T P G Q A (setJ B n (jTog (B.2.2.2 n))) E) dX7_strike_16 lX7_229 _ (c_J_toggle w (b.2 n) (B.2.2.2 n)) (D_J hn30) (D_Jb hn30) rfl rfl 0 rfl rfl rfl rfl ?_
    refine V_aload_n dX7_strike_19 0 rfl ?_
    refine V_get dX7_strike_20 fX7_42 0 rfl rfl ?_
    refine V_iconst 2 dX7_strike_23 (by decide) ?_
    refine V_iload_n dX7_strike_24 1 rfl ?_
    refine V_iconst (-1) dX7_strike_25 (by decide) ?_
    refine V_partE (ws' := cD w D b c T P G Q (aKeep A 2 j (-1)) (setJ B n (jTog (B.2.2.2 n))) E) dX7_strike_26 lX7_225 _ (c_A_keep w D.2.2.2.2.2.2 A 2 j (-1) hA) D_A (D_A).symm rfl rfl 0 rfl rfl rfl rfl ?_
    refine V_aload_n dX7_strike_29 2 rfl ?_
    refine V_partR dX7_strike_30 lX7_153 _ (c_J_isStruck w (b.2 n) ((setJ B n (jTog (B.2.2.2 n))).2.2.2 n)) (D_J hn30) rfl rfl 0 rfl rfl rfl rfl ?_
    refine V_ifeq_b 40 dX7_strike_33 (by decide) (fun zc1 => ?_) (fun zc1 => ?_)
    · refine V_iconst 0 dX7_strike_40 (by decide) ?_
      refine V_iret dX7_strike_41 rfl (nb rfl) (nb rfl) ?_
      rw [setJ_at] at zc1
      have hcl : j.toNatClampNeg = n := by rw [hx]; exact nI_cl hn30
      have hs : dStr (G, A, B) j = (0, G, (aKeep A 2 j (-1)), (setJ B n (jTog (B.2.2.2 n)))) := by
        unfold dStr
        rw [if_pos hi]
        simp only [hcl]
        have ht : (!(B.2.2.2 n).2.2.2.2.1) = false := zc1
        rw [ht]
        rfl
      exact ⟨by rw [hs], by rw [hs]⟩
    · refine V_iconst 1 dX7_strike_36 (by decide) ?_
      refine V_goto 41 dX7_strike_37 (by decide) ?_
      refine V_iret dX7_strike_41 rfl (nb rfl) (nb rfl) ?_
      rw [setJ_at] at zc1
      have hcl : j.toNatClampNeg = n := by rw [hx]; exact nI_cl hn30
      have hs : dStr (G, A, B) j = (1, G, (aKeep A 2 j (-1)), (setJ B n (jTog (B.2.2.2 n)))) := by
        unfold dStr
        rw [if_pos hi]
        simp only [hcl]
        have ht : (!(B.2.2.2 n).2.2.2.2.1) = true := zc1
        rw [ht]
        rfl
      exact ⟨by rw [hs], by rw [hs]⟩

set_option maxRecDepth 100000 in
set_option maxHeartbeats 4000000 in
theorem c_D_more (w : vWd) (D : DW) (b c : DB) (T : TP) (P : RP) (G : GP) (Q : SP) (A : AP) (B E : BP) (j : Int32) (x : Int32) (y : Int32) (m : Int32) (hA : A.1 ≤ 10) (hB : okB B) : Ct w mX7_more 7 0 0 [.ref (D.1), .int j, .int x, .int y, .int m] (cD w D b c T P G Q A B E) (qE (some (.int (dMore (G, A, B) j x y m).1)) (cD w D b c T P (dMore (G, A, B) j x y m).2.1 Q (dMore (G, A, B) j x y m).2.2.1 (dMore (G, A, B) j x y m).2.2.2 E)) := by
  refine Ct.of (L := [(0, .ref (D.1)), (1, .int j), (2, .int x), (3, .int y), (4, .int m)]) (by decide) rfl rfl ?_
  refine V_aload_n dX7_more_0 0 rfl ?_
  refine V_get dX7_more_1 fX7_49 0 rfl rfl ?_
  refine V_iload_n dX7_more_4 1 rfl ?_
  refine V_partR dX7_more_5 lX7_81 _ (c_B_find w b.1 b.2 B j hB) D_B rfl rfl 0 rfl rfl rfl rfl ?_
  rcases bRef_cs hB b.2 j with ⟨hf, he⟩ | ⟨n, hn, hx, hi, he⟩
  · refine V_castv (y := .null) he ?_
    refine V_astoreN dX7_more_8 rfl (L' := [(0, .ref (D.1)), (1, .int j), (2, .int x), (3, .int y), (4, .int m), (5, .null)]) rfl ?_
    refine V_aloadN dX7_more_10 5 rfl ?_
    refine V_ifnullN 26 dX7_more_12 (by decide) ?_
    refine V_iconst (-1) dX7_more_26 (by decide) ?_
    refine V_iret dX7_more_27 rfl (nb rfl) (nb rfl) ?_
    have hs : dMore (G, A, B) j x y m = ((-1), G, A, B) := by
      unfold dMore
      rw [if_neg (fun z => by rw [hf] at z; exact absurd z.1 (by decide))]
    exact ⟨by rw [hs], by rw [hs]⟩
  · refine V_castv (y := .ref (b.2 n 0)) he ?_
    have hn30 : n < 30 := by have := hB.2.1; omega
    have h6l := (hB.2.2 n hn30).1
    refine V_astore dX7_more_8 rfl (L' := [(0, .ref (D.1)), (1, .int j), (2, .int x), (3, .int y), (4, .int m), (5, .ref (b.2 n 0))]) rfl ?_
    refine V_aload dX7_more_10 5 rfl ?_
    refine V_ifnull dX7_more_12 ?_
    refine V_aload_n dX7_more_15 0 rfl ?_
    refine V_iload_n dX7_more_16 2 rfl ?_
    refine V_iload_n dX7_more_17 3 rfl ?_
    refine V_iload dX7_more_18 4 rfl ?_
    refine V_selfR dX7_more_20 lX7_214 (c_D_isTransfer w D b c T P G Q A B E x y m) rfl rfl 0 rfl rfl rfl rfl ?_
    refine V_ifne_b 28 dX7_more_23 (by decide) (fun zc1 => ?_) (fun zc1 => ?_)
    · refine V_aload dX7_more_28 5 rfl ?_
      refine V_partR dX7_more_30 lX7_144 _ (c_J_lines w (b.2 n) (B.2.2.2 n)) (D_J hn30) rfl rfl 0 rfl rfl rfl rfl ?_
      refine V_iconst 4 dX7_more_33 (by decide) ?_
      refine V_icmp_le_n ((B.2.2.2 n).2.1) 4 40 dX7_more_34 (by decide) (by omega) (by omega) (fun zc2 => ?_) (fun zc2 => ?_)
      · refine V_aload_n dX7_more_40 0 rfl ?_
        refine V_aload dX7_more_41 5 rfl ?_
        refine V_iload_n dX7_more_43 2 rfl ?_
        refine V_iload_n dX7_more_44 3 rfl ?_
        refine V_iload dX7_more_45 4 rfl ?_
        refine V_partE (ws' := cD w D b c T P ((stl (jTra (B.2.2.2 n) x y m) G).1) Q A (setJ B n (stl (jTra (B.2.2.2 n) x y m) G).2) E) dX7_more_47 lX7_221 _ (c_D_addTransfer w D b c G (b.2 n) (B.2.2.2 n) (hB.2.2 n hn30) x y m (by omega)) (D_S hn30) (D_Sb hn30) rfl rfl 0 rfl rfl rfl rfl ?_
        refine V_aload_n dX7_more_50 0 rfl ?_
        refine V_get dX7_more_51 fX7_42 0 rfl rfl ?_
        refine V_iconst 1 dX7_more_54 (by decide) ?_
        refine V_iload_n dX7_more_55 1 rfl ?_
        refine V_iconst (-1) dX7_more_56 (by decide) ?_
        refine V_partE (ws' := cD w D b c T P ((stl (jTra (B.2.2.2 n) x y m) G).1) Q (aKeep A 1 j (-1)) (setJ B n (stl (jTra (B.2.2.2 n) x y m) G).2) E) dX7_more_57 lX7_225 _ (c_A_keep w D.2.2.2.2.2.2 A 1 j (-1) hA) D_A (D_A).symm rfl rfl 0 rfl rfl rfl rfl ?_
        refine V_aload dX7_more_60 5 rfl ?_
        refine V_partR dX7_more_62 lX7_144 _ (c_J_lines w (b.2 n) ((setJ B n (stl (jTra (B.2.2.2 n) x y m) G).2).2.2.2 n)) (D_J hn30) rfl rfl 0 rfl rfl rfl rfl ?_
        refine V_iret dX7_more_65 rfl (nb rfl) (nb rfl) ?_
        have hcl : j.toNatClampNeg = n := by rw [hx]; exact nI_cl hn30
        have hs : dMore (G, A, B) j x y m = (nI (stl (jTra (B.2.2.2 n) x y m) G).2.2.1, ((stl (jTra (B.2.2.2 n) x y m) G).1), (aKeep A 1 j (-1)), (setJ B n (stl (jTra (B.2.2.2 n) x y m) G).2)) := by
          unfold dMore
          rw [if_pos ⟨hi, by assumption⟩]
          simp only [hcl]
          rw [if_pos (by omega)]
        exact ⟨by rw [hs, setJ_at], by rw [hs]⟩
      · refine V_bipush (-2) dX7_more_37 (by decide) ?_
        refine V_iret dX7_more_39 rfl (nb rfl) (nb rfl) ?_
        have hcl : j.toNatClampNeg = n := by rw [hx]; exact nI_cl hn30
        have hs : dMore (G, A, B) j x y m = ((-2), G, A, B) := by
          unfold dMore
          rw [if_pos ⟨hi, by assumption⟩]
          simp only [hcl]
          rw [if_neg (by omega)]
        exact ⟨by rw [hs], by rw [hs]⟩
    · refine V_iconst (-1) dX7_more_26 (by decide) ?_
      refine V_iret dX7_more_27 rfl (nb rfl) (nb rfl) ?_
      have hcl : j.toNatClampNeg = n := by rw [hx]; exact nI_cl hn30
      have hs : dMore (G, A, B) j x y m = ((-1), G, A, B) := by
        unfold dMore
        rw [if_neg (fun z => by have h1 := z.2; simp_all)]
      exact ⟨by rw [hs], by rw [hs]⟩

set_option maxRecDepth 100000 in
set_option maxHeartbeats 4000000 in
theorem c_D_post (w : vWd) (D : DW) (b c : DB) (T : TP) (P : RP) (G : GP) (Q : SP) (A : AP) (B E : BP) (p : Int32) (x : Int32) (y : Int32) (m : Int32) (hA : A.1 ≤ 10) (hB : okB B) : Ct w mX7_post 7 0 0 [.ref (D.1), .int p, .int x, .int y, .int m] (cD w D b c T P G Q A B E) (qE (some (.int (dPost (G, A, B) p x y m).1)) (cD w D b c T P (dPost (G, A, B) p x y m).2.1 Q (dPost (G, A, B) p x y m).2.2.1 (dPost (G, A, B) p x y m).2.2.2 E)) := by
  refine Ct.of (L := [(0, .ref (D.1)), (1, .int p), (2, .int x), (3, .int y), (4, .int m)]) (by decide) rfl rfl ?_
  refine V_iload_n dX7_post_0 1 rfl ?_
  refine V_purS dX7_post_1 lX7_207 (c_D_isPeriod w p) rfl rfl rfl ?_
  refine V_ifeq_b 18 dX7_post_4 (by decide) (fun zc1 => ?_) (fun zc1 => ?_)
  · refine V_iconst (-1) dX7_post_18 (by decide) ?_
    refine V_iret dX7_post_19 rfl (nb rfl) (nb rfl) ?_
    have hs : dPost (G, A, B) p x y m = ((-1), G, A, B) := by
      unfold dPost
      rw [if_neg (fun z => by have h1 := z.1; have h2 := z.2; simp_all)]
    exact ⟨by rw [hs], by rw [hs]⟩
  · refine V_aload_n dX7_post_7 0 rfl ?_
    refine V_iload_n dX7_post_8 2 rfl ?_
    refine V_iload_n dX7_post_9 3 rfl ?_
    refine V_iload dX7_post_10 4 rfl ?_
    refine V_selfR dX7_post_12 lX7_214 (c_D_isTransfer w D b c T P G Q A B E x y m) rfl rfl 0 rfl rfl rfl rfl ?_
    refine V_ifne_b 20 dX7_post_15 (by decide) (fun zc2 => ?_) (fun zc2 => ?_)
    · refine V_aload_n dX7_post_20 0 rfl ?_
      refine V_get dX7_post_21 fX7_49 0 rfl rfl ?_
      refine V_iload_n dX7_post_24 1 rfl ?_
      refine V_partE (ws' := cD w D b c T P G Q A (bOpen B p) E) dX7_post_25 lX7_218 _ (c_B_open w b.1 b.2 B p hB) D_B D_B.symm rfl rfl 0 rfl rfl rfl rfl ?_
      by_cases h30 : B.2.1 < 30
      · refine V_castv (y := .ref (b.2 B.2.1 0)) (if_pos h30) ?_
        refine V_astore dX7_post_28 rfl (L' := [(0, .ref (D.1)), (1, .int p), (2, .int x), (3, .int y), (4, .int m), (5, .ref (b.2 B.2.1 0))]) rfl ?_
        refine V_aload dX7_post_30 5 rfl ?_
        refine V_ifnonnull 38 dX7_post_32 (by decide) ?_
        refine V_aload_n dX7_post_38 0 rfl ?_
        refine V_get dX7_post_39 fX7_49 0 rfl rfl ?_
        refine V_partR dX7_post_42 lX7_78 _ (c_B_journals w b.1 b.2 (bOpen B p) ) D_B rfl rfl 0 rfl rfl rfl rfl ?_
        refine V_iconst 1 dX7_post_45 (by decide) ?_
        refine V_isub dX7_post_46 ?_
        refine V_casti (y := nI (B.2.1)) (post_n h30) ?_
        refine V_istore dX7_post_47 rfl (L' := [(0, .ref (D.1)), (1, .int p), (2, .int x), (3, .int y), (4, .int m), (5, .ref (b.2 B.2.1 0)), (6, .int (nI (B.2.1)))]) rfl ?_
        refine V_aload_n dX7_post_49 0 rfl ?_
        refine V_aload dX7_post_50 5 rfl ?_
        refine V_iload_n dX7_post_52 2 rfl ?_
        refine V_iload_n dX7_post_53 3 rfl ?_
        refine V_iload dX7_post_54 4 rfl ?_
        refine V_partE (ws' := cD w D b c T P ((stl (jTra ((bOpen B p).2.2.2 B.2.1) x y m) G).1) Q A (setJ (bOpen B p) B.2.1 (stl (jTra ((bOpen B p).2.2.2 B.2.1) x y m) G).2) E) dX7_post_56 lX7_221 _ (c_D_addTransfer w D b c G (b.2 B.2.1) ((bOpen B p).2.2.2 B.2.1) ((okB_open hB p).2.2 B.2.1 h30) x y m (by rw [post_0 h30]; exact Nat.zero_le _)) (D_S h30) (D_Sb h30) rfl rfl 0 rfl rfl rfl rfl ?_
        refine V_aload_n dX7_post_59 0 rfl ?_
        refine V_get dX7_post_60 fX7_42 0 rfl rfl ?_
        refine V_iconst 0 dX7_post_63 (by decide) ?_
        refine V_iload dX7_post_64 6 rfl ?_
        refine V_iconst (-1) dX7_post_66 (by decide) ?_
        refine V_partE (ws' := cD w D b c T P ((stl (jTra ((bOpen B p).2.2.2 B.2.1) x y m) G).1) Q (aKeep A 0 (nI (B.2.1)) (-1)) (setJ (bOpen B p) B.2.1 (stl (jTra ((bOpen B p).2.2.2 B.2.1) x y m) G).2) E) dX7_post_67 lX7_225 _ (c_A_keep w D.2.2.2.2.2.2 A 0 (nI (B.2.1)) (-1) hA) D_A (D_A).symm rfl rfl 0 rfl rfl rfl rfl ?_
        refine V_iload dX7_post_70 6 rfl ?_
        refine V_iret dX7_post_72 rfl (nb rfl) (nb rfl) ?_
        have hs : dPost (G, A, B) p x y m = (nI (B.2.1), ((stl (jTra ((bOpen B p).2.2.2 B.2.1) x y m) G).1), (aKeep A 0 (nI (B.2.1)) (-1)), (setJ (bOpen B p) B.2.1 (stl (jTra ((bOpen B p).2.2.2 B.2.1) x y m) G).2)) := by
          unfold dPost
          rw [if_pos ⟨by assumption, by assumption⟩, if_pos h30]
        exact ⟨by rw [hs], by rw [hs]⟩
      · refine V_castv (y := .null) (if_neg h30) ?_
        refine V_ws (ws' := cD w D b c T P G Q A B E) (by rw [bOpen, if_neg h30]) ?_
        refine V_astoreN dX7_post_28 rfl (L' := [(0, .ref (D.1)), (1, .int p), (2, .int x), (3, .int y), (4, .int m), (5, .null)]) rfl ?_
        refine V_aloadN dX7_post_30 5 rfl ?_
        refine V_ifnonnullN dX7_post_32 ?_
        refine V_bipush (-2) dX7_post_35 (by decide) ?_
        refine V_iret dX7_post_37 rfl (nb rfl) (nb rfl) ?_
        have hs : dPost (G, A, B) p x y m = ((-2), G, A, B) := by
          unfold dPost
          rw [if_pos ⟨by assumption, by assumption⟩, if_neg h30]
        exact ⟨by rw [hs], by rw [hs]⟩
    · refine V_iconst (-1) dX7_post_18 (by decide) ?_
      refine V_iret dX7_post_19 rfl (nb rfl) (nb rfl) ?_
      have hs : dPost (G, A, B) p x y m = ((-1), G, A, B) := by
        unfold dPost
        rw [if_neg (fun z => by have h1 := z.1; have h2 := z.2; simp_all)]
      exact ⟨by rw [hs], by rw [hs]⟩

set_option maxRecDepth 100000 in
set_option maxHeartbeats 4000000 in
theorem c_D_takeBack (w : vWd) (D : DW) (b c : DB) (T : TP) (P : RP) (G : GP) (Q : SP) (A : AP) (B E : BP) (so : Int32) (tg : Int32) (bf : Int32) (hB : okB B) (hso : so = 1 → inR B.2.1 tg = true → 4 ≤ (B.2.2.2 tg.toNatClampNeg).2.1) : Ct w mX7_takeBack 6 0 0 [.ref (D.1), .int so, .int tg, .int bf] (cD w D b c T P G Q A B E) (qE none (cD w D b c T P (dTkb G B so tg bf).1 Q A (dTkb G B so tg bf).2 E)) := by
  refine Ct.of (L := [(0, .ref (D.1)), (1, .int so), (2, .int tg), (3, .int bf)]) (by decide) rfl rfl ?_
  refine V_aload_n dX7_takeBack_0 0 rfl ?_
  refine V_get dX7_takeBack_1 fX7_49 0 rfl rfl ?_
  refine V_iload_n dX7_takeBack_4 2 rfl ?_
  refine V_partR dX7_takeBack_5 lX7_81 _ (c_B_find w b.1 b.2 B tg hB) D_B rfl rfl 0 rfl rfl rfl rfl ?_
  rcases bRef_cs hB b.2 tg with ⟨hf, he⟩ | ⟨n, hn, hx, hi, he⟩
  · refine V_castv (y := .null) he ?_
    refine V_astoreN dX7_takeBack_8 rfl (L' := [(0, .ref (D.1)), (1, .int so), (2, .int tg), (3, .int bf), (4, .null)]) rfl ?_
    refine V_iload_n dX7_takeBack_10 1 rfl ?_
    by_cases zc1 : so = 0
    · refine V_tabIn 44 dX7_takeBack_11 (by rw [zc1]; decide) (by rw [zc1]; decide) (by rw [zc1]; rfl) (by decide) ?_
      refine V_aload_n dX7_takeBack_44 0 rfl ?_
      refine V_get dX7_takeBack_45 fX7_49 0 rfl rfl ?_
      refine V_partE (ws' := cD w D b c T P G Q A (B.1, B.2.1 - 1, B.2.2) E) dX7_takeBack_48 lX7_265 _ (c_B_dropLatest w b.1 b.2 B hB) D_B (D_B).symm rfl rfl 0 rfl rfl rfl rfl ?_
      refine V_goto 110 dX7_takeBack_51 (by decide) ?_
      refine V_vret dX7_takeBack_110 rfl (nb rfl) (nb rfl) ?_
      have hs : dTkb G B so tg bf = (G, (B.1, B.2.1 - 1, B.2.2)) := by
        unfold dTkb
        simp only [hf]
        clear hso hB
        grind
      exact ⟨rfl, by rw [hs]⟩
    by_cases zc2 : so = 1
    · refine V_tabIn 54 dX7_takeBack_11 (by rw [zc2]; decide) (by rw [zc2]; decide) (by rw [zc2]; rfl) (by decide) ?_
      refine V_aloadN dX7_takeBack_54 4 rfl ?_
      refine V_ifnullN 110 dX7_takeBack_56 (by decide) ?_
      refine V_vret dX7_takeBack_110 rfl (nb rfl) (nb rfl) ?_
      have hs : dTkb G B so tg bf = (G, B) := by
        unfold dTkb
        simp only [hf]
        clear hso hB
        grind
      exact ⟨rfl, by rw [hs]⟩
    by_cases zc3 : so = 2
    · refine V_tabIn 73 dX7_takeBack_11 (by rw [zc3]; decide) (by rw [zc3]; decide) (by rw [zc3]; rfl) (by decide) ?_
      refine V_aloadN dX7_takeBack_73 4 rfl ?_
      refine V_ifnullN 110 dX7_takeBack_75 (by decide) ?_
      refine V_vret dX7_takeBack_110 rfl (nb rfl) (nb rfl) ?_
      have hs : dTkb G B so tg bf = (G, B) := by
        unfold dTkb
        simp only [hf]
        clear hso hB
        grind
      exact ⟨rfl, by rw [hs]⟩
    by_cases zc4 : so = 3
    · refine V_tabIn 86 dX7_takeBack_11 (by rw [zc4]; decide) (by rw [zc4]; decide) (by rw [zc4]; rfl) (by decide) ?_
      refine V_aload_n dX7_takeBack_86 0 rfl ?_
      refine V_get dX7_takeBack_87 fX7_49 0 rfl rfl ?_
      refine V_iload_n dX7_takeBack_90 2 rfl ?_
      refine V_iload_n dX7_takeBack_91 3 rfl ?_
      refine V_partE (ws' := cD w D b c T P G Q A (bSetX B 2 tg bf) E) dX7_takeBack_92 lX7_234 _ (c_B_setTold w b.1 b.2 B tg bf hB) D_B (D_B).symm rfl rfl 0 rfl rfl rfl rfl ?_
      refine V_goto 110 dX7_takeBack_95 (by decide) ?_
      refine V_vret dX7_takeBack_110 rfl (nb rfl) (nb rfl) ?_
      have hs : dTkb G B so tg bf = (G, (bSetX B 2 tg bf)) := by
        unfold dTkb
        simp only [hf]
        clear hso hB
        grind
      exact ⟨rfl, by rw [hs]⟩
    by_cases zc5 : so = 4
    · refine V_tabIn 98 dX7_takeBack_11 (by rw [zc5]; decide) (by rw [zc5]; decide) (by rw [zc5]; rfl) (by decide) ?_
      refine V_aload_n dX7_takeBack_98 0 rfl ?_
      refine V_get dX7_takeBack_99 fX7_49 0 rfl rfl ?_
      refine V_iload_n dX7_takeBack_102 2 rfl ?_
      refine V_iload_n dX7_takeBack_103 3 rfl ?_
      refine V_partE (ws' := cD w D b c T P G Q A (bSetX B 0 tg bf) E) dX7_takeBack_104 lX7_238 _ (c_B_setKind w b.1 b.2 B tg bf hB) D_B (D_B).symm rfl rfl 0 rfl rfl rfl rfl ?_
      refine V_goto 110 dX7_takeBack_107 (by decide) ?_
      refine V_vret dX7_takeBack_110 rfl (nb rfl) (nb rfl) ?_
      have hs : dTkb G B so tg bf = (G, (bSetX B 0 tg bf)) := by
        unfold dTkb
        simp only [hf]
        clear hso hB
        grind
      exact ⟨rfl, by rw [hs]⟩
    refine V_tabOut 110 dX7_takeBack_11 (v_out4 zc1 zc2 zc3 zc4 zc5) (by decide) ?_
    refine V_vret dX7_takeBack_110 rfl (nb rfl) (nb rfl) ?_
    have hs : dTkb G B so tg bf = (G, B) := by
      unfold dTkb
      simp only [hf]
      clear hso hB
      grind
    exact ⟨rfl, by rw [hs]⟩
  · refine V_castv (y := .ref (b.2 n 0)) he ?_
    have hn30 : n < 30 := by have := hB.2.1; omega
    have h6l := (hB.2.2 n hn30).1
    refine V_astore dX7_takeBack_8 rfl (L' := [(0, .ref (D.1)), (1, .int so), (2, .int tg), (3, .int bf), (4, .ref (b.2 n 0))]) rfl ?_
    refine V_iload_n dX7_takeBack_10 1 rfl ?_
    by_cases zc6 : so = 0
    · refine V_tabIn 44 dX7_takeBack_11 (by rw [zc6]; decide) (by rw [zc6]; decide) (by rw [zc6]; rfl) (by decide) ?_
      refine V_aload_n dX7_takeBack_44 0 rfl ?_
      refine V_get dX7_takeBack_45 fX7_49 0 rfl rfl ?_
      refine V_partE (ws' := cD w D b c T P G Q A (B.1, B.2.1 - 1, B.2.2) E) dX7_takeBack_48 lX7_265 _ (c_B_dropLatest w b.1 b.2 B hB) D_B (D_B).symm rfl rfl 0 rfl rfl rfl rfl ?_
      refine V_goto 110 dX7_takeBack_51 (by decide) ?_
      refine V_vret dX7_takeBack_110 rfl (nb rfl) (nb rfl) ?_
      have hs : dTkb G B so tg bf = (G, (B.1, B.2.1 - 1, B.2.2)) := by
        unfold dTkb
        have hcl : tg.toNatClampNeg = n := by rw [hx]; exact nI_cl hn30
        simp only [hcl, hi]
        clear hso hB
        grind
      exact ⟨rfl, by rw [hs]⟩
    by_cases zc7 : so = 1
    · refine V_tabIn 54 dX7_takeBack_11 (by rw [zc7]; decide) (by rw [zc7]; decide) (by rw [zc7]; rfl) (by decide) ?_
      refine V_aload dX7_takeBack_54 4 rfl ?_
      refine V_ifnull dX7_takeBack_56 ?_
      refine V_aload dX7_takeBack_59 4 rfl ?_
      refine V_partE (ws' := cD w D b c T P G Q A (setJ B n (jDrop (B.2.2.2 n))) E) dX7_takeBack_61 lX7_266 _ (c_J_dropTransfer w (b.2 n) (B.2.2.2 n) (hB.2.2 n hn30)) (D_J hn30) (D_Jb hn30) rfl rfl 0 rfl rfl rfl rfl ?_
      refine V_aload_n dX7_takeBack_64 0 rfl ?_
      refine V_aload dX7_takeBack_65 4 rfl ?_
      refine V_partE (ws' := cD w D b c T P ((stl ((setJ B n (jDrop (B.2.2.2 n))).2.2.2 n) G).1) Q A (setJ (setJ B n (jDrop (B.2.2.2 n))) n (stl ((setJ B n (jDrop (B.2.2.2 n))).2.2.2 n) G).2) E) dX7_takeBack_67 lX7_85 _ (c_D_settle w D b c G (b.2 n) ((setJ B n (jDrop (B.2.2.2 n))).2.2.2 n) (by rw [setJ_at]; exact ⟨by have := (hB.2.2 n hn30).1; show (B.2.2.2 n).2.1 - 2 ≤ 6; omega, (hB.2.2 n hn30).2⟩) (by rw [setJ_at]; have h4 := hso (by assumption) hi; rw [hx, nI_cl hn30] at h4; show 2 ≤ (B.2.2.2 n).2.1 - 2; omega)) (D_S hn30) (D_Sb hn30) rfl rfl 0 rfl rfl rfl rfl ?_
      refine V_goto 110 dX7_takeBack_70 (by decide) ?_
      refine V_vret dX7_takeBack_110 rfl (nb rfl) (nb rfl) ?_
      have hs : dTkb G B so tg bf = ((stl (jDrop (B.2.2.2 n)) G).1, setJ B n (stl (jDrop (B.2.2.2 n)) G).2) := by
        have hcl : tg.toNatClampNeg = n := by rw [hx]; exact nI_cl hn30
        unfold dTkb
        simp only [hcl, hi]
        clear hso hB
        grind
      exact ⟨rfl, by rw [hs, setJ_at, setJ_setJ]⟩
    by_cases zc8 : so = 2
    · refine V_tabIn 73 dX7_takeBack_11 (by rw [zc8]; decide) (by rw [zc8]; decide) (by rw [zc8]; rfl) (by decide) ?_
      refine V_aload dX7_takeBack_73 4 rfl ?_
      refine V_ifnull dX7_takeBack_75 ?_
      refine V_aload dX7_takeBack_78 4 rfl ?_
      refine V_partE (ws' := cD w D b c T P G Q A (setJ B n (jTog (B.2.2.2 n))) E) dX7_takeBack_80 lX7_229 _ (c_J_toggle w (b.2 n) (B.2.2.2 n)) (D_J hn30) (D_Jb hn30) rfl rfl 0 rfl rfl rfl rfl ?_
      refine V_goto 110 dX7_takeBack_83 (by decide) ?_
      refine V_vret dX7_takeBack_110 rfl (nb rfl) (nb rfl) ?_
      have hs : dTkb G B so tg bf = (G, (setJ B n (jTog (B.2.2.2 n)))) := by
        unfold dTkb
        have hcl : tg.toNatClampNeg = n := by rw [hx]; exact nI_cl hn30
        simp only [hcl, hi]
        clear hso hB
        grind
      exact ⟨rfl, by rw [hs]⟩
    by_cases zc9 : so = 3
    · refine V_tabIn 86 dX7_takeBack_11 (by rw [zc9]; decide) (by rw [zc9]; decide) (by rw [zc9]; rfl) (by decide) ?_
      refine V_aload_n dX7_takeBack_86 0 rfl ?_
      refine V_get dX7_takeBack_87 fX7_49 0 rfl rfl ?_
      refine V_iload_n dX7_takeBack_90 2 rfl ?_
      refine V_iload_n dX7_takeBack_91 3 rfl ?_
      refine V_partE (ws' := cD w D b c T P G Q A (bSetX B 2 tg bf) E) dX7_takeBack_92 lX7_234 _ (c_B_setTold w b.1 b.2 B tg bf hB) D_B (D_B).symm rfl rfl 0 rfl rfl rfl rfl ?_
      refine V_goto 110 dX7_takeBack_95 (by decide) ?_
      refine V_vret dX7_takeBack_110 rfl (nb rfl) (nb rfl) ?_
      have hs : dTkb G B so tg bf = (G, (bSetX B 2 tg bf)) := by
        unfold dTkb
        have hcl : tg.toNatClampNeg = n := by rw [hx]; exact nI_cl hn30
        simp only [hcl, hi]
        clear hso hB
        grind
      exact ⟨rfl, by rw [hs]⟩
    by_cases zc10 : so = 4
    · refine V_tabIn 98 dX7_takeBack_11 (by rw [zc10]; decide) (by rw [zc10]; decide) (by rw [zc10]; rfl) (by decide) ?_
      refine V_aload_n dX7_takeBack_98 0 rfl ?_
      refine V_get dX7_takeBack_99 fX7_49 0 rfl rfl ?_
      refine V_iload_n dX7_takeBack_102 2 rfl ?_
      refine V_iload_n dX7_takeBack_103 3 rfl ?_
      refine V_partE (ws' := cD w D b c T P G Q A (bSetX B 0 tg bf) E) dX7_takeBack_104 lX7_238 _ (c_B_setKind w b.1 b.2 B tg bf hB) D_B (D_B).symm rfl rfl 0 rfl rfl rfl rfl ?_
      refine V_goto 110 dX7_takeBack_107 (by decide) ?_
      refine V_vret dX7_takeBack_110 rfl (nb rfl) (nb rfl) ?_
      have hs : dTkb G B so tg bf = (G, (bSetX B 0 tg bf)) := by
        unfold dTkb
        have hcl : tg.toNatClampNeg = n := by rw [hx]; exact nI_cl hn30
        simp only [hcl, hi]
        clear hso hB
        grind
      exact ⟨rfl, by rw [hs]⟩
    refine V_tabOut 110 dX7_takeBack_11 (v_out4 zc6 zc7 zc8 zc9 zc10) (by decide) ?_
    refine V_vret dX7_takeBack_110 rfl (nb rfl) (nb rfl) ?_
    have hs : dTkb G B so tg bf = (G, B) := by
      unfold dTkb
      have hcl : tg.toNatClampNeg = n := by rw [hx]; exact nI_cl hn30
      simp only [hcl, hi]
      clear hso hB
      grind
    exact ⟨rfl, by rw [hs]⟩

set_option maxRecDepth 100000 in
set_option maxHeartbeats 4000000 in
theorem c_D_undo (w : vWd) (D : DW) (b c : DB) (T : TP) (P : RP) (G : GP) (Q : SP) (A : AP) (B E : BP) (hA : A.1 ≤ 10) (hB : okB B) (hso : 0 < A.1 → A.2 0 (A.1 - 1) = 1 → inR B.2.1 (A.2 1 (A.1 - 1)) = true → 4 ≤ (B.2.2.2 (A.2 1 (A.1 - 1)).toNatClampNeg).2.1) : Ct w mX7_undo 7 0 0 [.ref (D.1)] (cD w D b c T P G Q A B E) (qE (some (.int (dUnd (G, A, B)).1)) (cD w D b c T P (dUnd (G, A, B)).2.1 Q (dUnd (G, A, B)).2.2.1 (dUnd (G, A, B)).2.2.2 E)) := by
  refine Ct.of (L := [(0, .ref (D.1))]) (by decide) rfl rfl ?_
  refine V_aload_n dX7_undo_0 0 rfl ?_
  refine V_get dX7_undo_1 fX7_42 0 rfl rfl ?_
  refine V_partR dX7_undo_4 lX7_104 _ (c_A_size w D.2.2.2.2.2.2 A) D_A rfl rfl 0 rfl rfl rfl rfl ?_
  refine V_if_ne_n A.1 12 dX7_undo_7 (by decide) (by omega) (fun zc1 => ?_) (fun zc1 => ?_)
  · refine V_aload_n dX7_undo_12 0 rfl ?_
    refine V_aload_n dX7_undo_13 0 rfl ?_
    refine V_get dX7_undo_14 fX7_42 0 rfl rfl ?_
    refine V_partR dX7_undo_17 lX7_241 _ (c_A_latestSort w D.2.2.2.2.2.2 A hA) D_A rfl rfl 0 rfl rfl rfl rfl ?_
    refine V_casti (y := A.2 0 (A.1 - 1)) (if_pos (by omega)) ?_
    refine V_aload_n dX7_undo_20 0 rfl ?_
    refine V_get dX7_undo_21 fX7_42 0 rfl rfl ?_
    refine V_partR dX7_undo_24 lX7_244 _ (c_A_latestTarget w D.2.2.2.2.2.2 A hA) D_A rfl rfl 0 rfl rfl rfl rfl ?_
    refine V_casti (y := A.2 1 (A.1 - 1)) (if_pos (by omega)) ?_
    refine V_aload_n dX7_undo_27 0 rfl ?_
    refine V_get dX7_undo_28 fX7_42 0 rfl rfl ?_
    refine V_partR dX7_undo_31 lX7_247 _ (c_A_latestBefore w D.2.2.2.2.2.2 A hA) D_A rfl rfl 0 rfl rfl rfl rfl ?_
    refine V_casti (y := A.2 2 (A.1 - 1)) (if_pos (by omega)) ?_
    refine V_selfE (ws' := cD w D b c T P ((dTkb G B (A.2 0 (A.1 - 1)) (A.2 1 (A.1 - 1)) (A.2 2 (A.1 - 1))).1) Q A ((dTkb G B (A.2 0 (A.1 - 1)) (A.2 1 (A.1 - 1)) (A.2 2 (A.1 - 1))).2) E) dX7_undo_34 lX7_250 (c_D_takeBack w D b c T P G Q A B E (A.2 0 (A.1 - 1)) (A.2 1 (A.1 - 1)) (A.2 2 (A.1 - 1)) hB (hso (by omega))) rfl rfl 0 rfl rfl rfl rfl ?_
    refine V_aload_n dX7_undo_37 0 rfl ?_
    refine V_get dX7_undo_38 fX7_42 0 rfl rfl ?_
    refine V_partE (ws' := cD w D b c T P ((dTkb G B (A.2 0 (A.1 - 1)) (A.2 1 (A.1 - 1)) (A.2 2 (A.1 - 1))).1) Q (A.1 - 1, A.2) ((dTkb G B (A.2 0 (A.1 - 1)) (A.2 1 (A.1 - 1)) (A.2 2 (A.1 - 1))).2) E) dX7_undo_41 lX7_253 _ (c_A_dropLatest w D.2.2.2.2.2.2 A hA) D_A (D_A).symm rfl rfl 0 rfl rfl rfl rfl ?_
    refine V_aload_n dX7_undo_44 0 rfl ?_
    refine V_get dX7_undo_45 fX7_42 0 rfl rfl ?_
    refine V_partR dX7_undo_48 lX7_104 _ (c_A_size w D.2.2.2.2.2.2 (A.1 - 1, A.2)) D_A rfl rfl 0 rfl rfl rfl rfl ?_
    refine V_iret dX7_undo_51 rfl (nb rfl) (nb rfl) ?_
    have hs : dUnd (G, A, B) = (nI ((A.1 - 1, A.2).1), ((dTkb G B (A.2 0 (A.1 - 1)) (A.2 1 (A.1 - 1)) (A.2 2 (A.1 - 1))).1), (A.1 - 1, A.2), ((dTkb G B (A.2 0 (A.1 - 1)) (A.2 1 (A.1 - 1)) (A.2 2 (A.1 - 1))).2)) := by
      unfold dUnd
      exact if_neg (by show ¬ A.1 = 0; omega)
    exact ⟨by rw [hs], by rw [hs]⟩
  · refine V_iconst (-1) dX7_undo_10 (by decide) ?_
    refine V_iret dX7_undo_11 rfl (nb rfl) (nb rfl) ?_
    have hs : dUnd (G, A, B) = ((-1), G, A, B) := by
      unfold dUnd
      exact if_pos (by omega)
    exact ⟨by rw [hs], by rw [hs]⟩
