/-! 17: the reference parts a journal and lays its pieces -/
/-- the search's rows: the row tried, the sums, how many groups are best, the groups of the best -/
abbrev TS : Type := (Nat → Int32) × (Nat → Int32) × Nat × (Nat → Int32)
def cpyR (r f : Nat → Int32) : Nat → Nat → Int32
  | 0 => f
  | i + 1 => upd (cpyR r f i) i (r i)
def foG {α : Type} (st : Nat → α → α) : Nat → α → α
  | 0, S => S
  | g + 1, S => st g (foG st g S)
def trI (am : Nat → Int32) (k g : Nat) (S : TS) : TS := (upd S.1 k (nI g), upd S.2.1 g (S.2.1 g + am k), S.2.2)
def trO (am : Nat → Int32) (k g : Nat) (S : TS) : TS := (S.1, upd S.2.1 g (S.2.1 g - am k), S.2.2)
def trL (k many : Nat) (S : TS) : TS := if zz S.2.1 many = true ∧ S.2.2.1 < many then (S.1, S.2.1, many, cpyR S.1 S.2.2.2 k) else S
def tr (am : Nat → Int32) : Nat → Nat → Nat → TS → TS
  | 0, k, many, S => trL k many S
  | m + 1, k, many, S => foG (fun g S => trO am k g (tr am m (k + 1) (if g = many then many + 1 else many) (trI am k g S))) (many + 1) S
theorem trL_gs {k many : Nat} {S : TS} (h : S.2.2.1 ≤ 6) (hm : many ≤ 6) : (trL k many S).2.2.1 ≤ 6 := by
  unfold trL; split
  · exact hm
  · exact h
theorem foG_ind {α : Type} {st : Nat → α → α} {p : α → Prop} (hs : ∀ g S, p S → p (st g S)) : ∀ n S, p S → p (foG st n S)
  | 0, _, h => h
  | n + 1, S, h => hs n _ (foG_ind hs n S h)
theorem foG_indB {α : Type} {st : Nat → α → α} {p : α → Prop} : ∀ n S, (∀ g S, g < n → p S → p (st g S)) → p S → p (foG st n S)
  | 0, _, _, h => h
  | n + 1, S, hs, h => hs n _ (by omega) (foG_indB n S (fun g S hg => hs g S (by omega)) h)
theorem tr_gs {am : Nat → Int32} : ∀ {m k many : Nat} {S : TS}, S.2.2.1 ≤ 6 → many ≤ k → k + m ≤ 6 → (tr am m k many S).2.2.1 ≤ 6
  | 0, k, many, S, h, hm, hk => trL_gs h (by omega)
  | m + 1, k, many, S, h, hm, hk => by
    unfold tr
    refine foG_indB (p := fun S => S.2.2.1 ≤ 6) (many + 1) S (fun g S hg hS => ?_) h
    show (tr am m (k + 1) _ (trI am k g S)).2.2.1 ≤ 6
    refine tr_gs (m := m) hS ?_ (by omega)
    split <;> omega
theorem vchk_d {w : vWd} {Q : Option Value → va_W → Prop} {D dd nL : Nat} {rest : List Value} (h1 : dd + 1 ≤ D) (h2 : nL ≤ 40) (h3 : (rest.map fun v => v.category).sum ≤ 8) : vchk (vc w D 0 0 Q).1 dd nL 0 0 rest = true := by
  unfold vchk
  simp only [vc, vrm, Bool.and_eq_true]
  refine ⟨Nat.ble_eq_true_of_le h1, Nat.ble_eq_true_of_le (by omega), rfl, rfl, Nat.ble_eq_true_of_le h3⟩

def cTS (w : vWd) (a : Nat → Nat) (th : Int32) (Z : ZT) (sn ps : Nat) (X : Nat → Nat → Int32) (S : TS) : va_W := cG w a th Z sn S.2.2.1 ps (uX (uX (uX X 16 S.1) 17 S.2.2.2) 18 S.2.1)

set_option maxRecDepth 100000 in
set_option maxHeartbeats 4000000 in
theorem lp_M_tr2 (w : vWd) (a : Nat → Nat) (th : Int32) (Z : ZT) (sn ps : Nat) (X : Nat → Nat → Int32) (j : Nat) (na nj : Nat) (nl : Nat → Nat) (ac : Nat → Nat → Nat) (hN : okN (X 11) na nj nl ac) (hj : j < nj) : ∀ (m : Nat) (k many : Nat) (S : TS) (i : Nat), (k + 1 ≤ i + m) → (i ≤ k) → (k ≤ 6) → V w mX8_tries (vc w 2 0 0 (qE none (cTS w a th Z sn ps X (S.1, S.2.1, many, cpyR S.1 S.2.2.2 k)))) 0 0 53 [(0, .ref (a 0)), (1, .int (nI j)), (2, .int (nI k)), (3, .int (nI many)), (4, .int (nI i))] [] (cTS w a th Z sn ps X (S.1, S.2.1, many, cpyR S.1 S.2.2.2 i)) := by
  intro m
  induction m with
  | zero =>
    intro k many S i h1 h2 hk6
    exact absurd h1 (by omega)
  | succ m ih =>
    intro k many S i h1 h2 hk6
    refine V_iload dX8_tries_53 4 rfl ?_
    refine V_iload_n dX8_tries_55 2 rfl ?_
    refine V_icmp_ge_n i k 79 dX8_tries_56 (by decide) (by omega) (by omega) (fun zc1 => ?_) (fun zc1 => ?_)
    · exact V_vret dX8_tries_79 rfl (nb rfl) (nb rfl) ⟨rfl, by rw [show i = k by omega]⟩
    · refine V_aload_n dX8_tries_59 0 rfl ?_
      refine V_get dX8_tries_60 fX8_88 0 rfl rfl ?_
      refine V_iload dX8_tries_63 4 rfl ?_
      refine V_aload_n dX8_tries_65 0 rfl ?_
      refine V_get dX8_tries_66 fX8_85 0 rfl rfl ?_
      refine V_iload dX8_tries_69 4 rfl ?_
      refine V_iald dX8_tries_71 5 rfl rfl i rfl (by omega) ?_
      refine V_iast dX8_tries_72 6 rfl rfl i rfl (by omega) (ws' := cTS w a th Z sn ps X (S.1, S.2.1, many, upd (cpyR S.1 S.2.2.2 i) i (S.1 i))) rfl ?_
      refine V_iinc (nI (i + 1)) dX8_tries_73 4 rfl (nI_i1 i) rfl (L' := [(0, .ref (a 0)), (1, .int (nI j)), (2, .int (nI k)), (3, .int (nI many)), (4, .int (nI (i + 1)))]) rfl ?_
      refine V_goto 53 dX8_tries_76 (by decide) ?_
      exact ih k many S (i + 1) (by omega) (by omega) hk6

set_option maxRecDepth 100000 in
set_option maxHeartbeats 4000000 in
theorem lp_M_tr1 (w : vWd) (a : Nat → Nat) (th : Int32) (Z : ZT) (sn ps : Nat) (X : Nat → Nat → Int32) (j : Nat) (na nj : Nat) (nl : Nat → Nat) (ac : Nat → Nat → Nat) (hN : okN (X 11) na nj nl ac) (hj : j < nj) : ∀ (m : Nat) (k many : Nat) (S : TS) (g : Nat), (many + 1 ≤ g + m) → (g ≤ many) → (k ≤ 6) → (many ≤ k) → (S.2.2.1 ≤ 6) → (zz S.2.1 g = true) → V w mX8_tries (vc w 2 0 0 (qE none (cTS w a th Z sn ps X (trL k many S)))) 0 0 13 [(0, .ref (a 0)), (1, .int (nI j)), (2, .int (nI k)), (3, .int (nI many)), (4, .int (nI g))] [] (cTS w a th Z sn ps X S) := by
  intro m
  induction m with
  | zero =>
    intro k many S g h1 h2 hk6 hm hgs hz
    exact absurd h1 (by omega)
  | succ m ih =>
    intro k many S g h1 h2 hk6 hm hgs hz
    refine V_iload dX8_tries_13 4 rfl ?_
    refine V_iload_n dX8_tries_15 3 rfl ?_
    refine V_icmp_ge_n g many 36 dX8_tries_16 (by decide) (by omega) (by omega) (fun zc1 => ?_) (fun zc1 => ?_)
    · refine V_iload_n dX8_tries_36 3 rfl ?_
      refine V_aload_n dX8_tries_37 0 rfl ?_
      refine V_get dX8_tries_38 fX8_189 0 rfl rfl ?_
      refine V_icmp_gt_n many S.2.2.1 45 dX8_tries_41 (by decide) (by omega) (by omega) (fun zc2 => ?_) (fun zc2 => ?_)
      · refine V_aload_n dX8_tries_45 0 rfl ?_
        refine V_iload_n dX8_tries_46 3 rfl ?_
        refine V_put dX8_tries_47 pX8_189 0 rfl rfl rfl rfl (ws' := cTS w a th Z sn ps X (S.1, S.2.1, many, S.2.2.2)) rfl ?_
        refine V_iconst 0 dX8_tries_50 (by decide) ?_
        refine V_istore dX8_tries_51 rfl (L' := [(0, .ref (a 0)), (1, .int (nI j)), (2, .int (nI k)), (3, .int (nI many)), (4, .int 0)]) rfl ?_
        have hgm : g = many := by omega
        rw [show trL k many S = (S.1, S.2.1, many, cpyR S.1 S.2.2.2 k) by rw [trL, if_pos ⟨by rw [← hgm]; exact hz, by omega⟩]]
        exact lp_M_tr2 w a th Z sn ps X j na nj nl ac hN hj (k + 1) k many S 0 (by omega) (by omega) hk6
      · exact V_vret dX8_tries_44 rfl (nb rfl) (nb rfl) ⟨rfl, by rw [trL, if_neg (by omega)]⟩
    · refine V_aload_n dX8_tries_19 0 rfl ?_
      refine V_get dX8_tries_20 fX8_91 0 rfl rfl ?_
      refine V_iload dX8_tries_23 4 rfl ?_
      refine V_iald dX8_tries_25 7 rfl rfl g rfl (by omega) ?_
      refine V_if_eq 30 dX8_tries_26 (by decide) (fun zc3 => ?_) (fun zc3 => ?_)
      · have hzg : S.2.1 g = 0 := zc3
        refine V_iinc (nI (g + 1)) dX8_tries_30 4 rfl (nI_i1 g) rfl (L' := [(0, .ref (a 0)), (1, .int (nI j)), (2, .int (nI k)), (3, .int (nI many)), (4, .int (nI (g + 1)))]) rfl ?_
        refine V_goto 13 dX8_tries_33 (by decide) ?_
        exact ih k many S (g + 1) (by omega) (by omega) hk6 hm hgs (by rw [zz, hz, hzg]; rfl)
      · have hzn : ¬ S.2.1 g = 0 := zc3
        exact V_vret dX8_tries_29 rfl (nb rfl) (nb rfl) ⟨rfl, by rw [trL, if_neg (fun z => zz_no hzn (by omega) z.1)]⟩

set_option maxRecDepth 100000 in
set_option maxHeartbeats 4000000 in
theorem e_M_tries0 (w : vWd) (a : Nat → Nat) (th : Int32) (Z : ZT) (sn ps : Nat) (X : Nat → Nat → Int32) (j : Nat) (na nj : Nat) (nl : Nat → Nat) (ac : Nat → Nat → Nat) (hN : okN (X 11) na nj nl ac) (hj : j < nj) (k many : Nat) (S : TS) (hkm : k = nl j) (hm : many ≤ k) (hgs : S.2.2.1 ≤ 6) : Ct w mX8_tries 2 0 0 [.ref (a 0), .int (nI j), .int (nI k), .int (nI many)] (cTS w a th Z sn ps X S) (qE none (cTS w a th Z sn ps X (tr (mAm (X 11) j) 0 k many S))) := by
  refine Ct.of (L := [(0, .ref (a 0)), (1, .int (nI j)), (2, .int (nI k)), (3, .int (nI many))]) (by decide) rfl rfl ?_
  obtain ⟨hn0, hn1, hna, hnj, hnl, hac⟩ := id hN
  obtain ⟨hl1, hl2⟩ := hnl j hj
  refine V_iload_n dX8_tries_0 2 rfl ?_
  refine V_aload_n dX8_tries_1 0 rfl ?_
  refine V_iload_n dX8_tries_2 1 rfl ?_
  refine V_iconst 2 dX8_tries_3 (by decide) ?_
  refine V_selfR dX8_tries_4 lX8_167 (e_M_told w a th Z sn S.2.2.1 ps (uX (uX (uX X 16 S.1) 17 S.2.2.2) 18 S.2.1) j 2 (by omega)) rfl rfl 0 rfl rfl rfl (vchk_d (by omega) (by decide) (nb rfl)) ?_
  refine V_casti (y := nI (nl j)) hl1 ?_
  refine V_icmp_ne_f 80 dX8_tries_7 (by decide) (by rw [hkm]) ?_
  refine V_iconst 0 dX8_tries_10 (by decide) ?_
  refine V_istore dX8_tries_11 rfl (L' := [(0, .ref (a 0)), (1, .int (nI j)), (2, .int (nI k)), (3, .int (nI many)), (4, .int 0)]) rfl ?_
  exact lp_M_tr1 w a th Z sn ps X j na nj nl ac hN hj (many + 1) k many S 0 (by omega) (by omega) (by omega) hm hgs rfl

set_option maxRecDepth 100000 in
set_option maxHeartbeats 4000000 in
theorem lp_M_tr3 (w : vWd) (a : Nat → Nat) (th : Int32) (Z : ZT) (sn ps : Nat) (X : Nat → Nat → Int32) (j : Nat) (na nj : Nat) (nl : Nat → Nat) (ac : Nat → Nat → Nat) (hN : okN (X 11) na nj nl ac) (hj : j < nj) (d m0 : Nat) (hrec : ∀ (k many : Nat) (S : TS), k + m0 = nl j → many ≤ k → S.2.2.1 ≤ 6 → Ct w mX8_tries (d + 2) 0 0 [.ref (a 0), .int (nI j), .int (nI k), .int (nI many)] (cTS w a th Z sn ps X S) (qE none (cTS w a th Z sn ps X (tr (mAm (X 11) j) m0 k many S)))) (k many : Nat) (S : TS) (hkm : k + (m0 + 1) = nl j) (hm : many ≤ k) (hgs : S.2.2.1 ≤ 6) : ∀ (m : Nat) (g : Nat), (many + 2 ≤ g + m) → (g ≤ many + 1) → V w mX8_tries (vc w (d + 3) 0 0 (qE none (cTS w a th Z sn ps X (tr (mAm (X 11) j) (m0 + 1) k many S)))) 0 0 83 [(0, .ref (a 0)), (1, .int (nI j)), (2, .int (nI k)), (3, .int (nI many)), (4, .int (nI g))] [] (cTS w a th Z sn ps X (foG (fun g S => trO (mAm (X 11) j) k g (tr (mAm (X 11) j) m0 (k + 1) (if g = many then many + 1 else many) (trI (mAm (X 11) j) k g S))) g S)) := by
  intro m
  induction m with
  | zero =>
    intro g h1 h2
    exact absurd h1 (by omega)
  | succ m ih =>
    intro g h1 h2
    obtain ⟨hn0, hn1, hna, hnj, hnl, hac⟩ := id hN
    obtain ⟨hl1, hl2⟩ := hnl j hj
    have hgf : (foG (fun g S => trO (mAm (X 11) j) k g (tr (mAm (X 11) j) m0 (k + 1) (if g = many then many + 1 else many) (trI (mAm (X 11) j) k g S))) g S).2.2.1 ≤ 6 := by
      refine foG_indB (p := fun S => S.2.2.1 ≤ 6) g S (fun g S hg hS => ?_) hgs
      show (tr (mAm (X 11) j) m0 (k + 1) _ (trI (mAm (X 11) j) k g S)).2.2.1 ≤ 6
      refine tr_gs (m := m0) hS ?_ (by omega)
      split <;> omega
    refine V_iload dX8_tries_83 4 rfl ?_
    refine V_iload_n dX8_tries_85 3 rfl ?_
    refine V_icmp_gt_n g many 156 dX8_tries_86 (by decide) (by omega) (by omega) (fun zc1 => ?_) (fun zc1 => ?_)
    · exact V_vret dX8_tries_156 rfl (Nat.le_refl _) (Nat.le_refl _) ⟨rfl, by rw [show g = many + 1 by omega]; rfl⟩
    · refine V_aload_n dX8_tries_89 0 rfl ?_
      refine V_get dX8_tries_90 fX8_85 0 rfl rfl ?_
      refine V_iload_n dX8_tries_93 2 rfl ?_
      refine V_iload dX8_tries_94 4 rfl ?_
      refine V_iast dX8_tries_96 5 rfl rfl k rfl (by omega) (ws' := cTS w a th Z sn ps X (upd ((foG (fun g S => trO (mAm (X 11) j) k g (tr (mAm (X 11) j) m0 (k + 1) (if g = many then many + 1 else many) (trI (mAm (X 11) j) k g S))) g S).1) k (nI g), (foG (fun g S => trO (mAm (X 11) j) k g (tr (mAm (X 11) j) m0 (k + 1) (if g = many then many + 1 else many) (trI (mAm (X 11) j) k g S))) g S).2.1, (foG (fun g S => trO (mAm (X 11) j) k g (tr (mAm (X 11) j) m0 (k + 1) (if g = many then many + 1 else many) (trI (mAm (X 11) j) k g S))) g S).2.2.1, (foG (fun g S => trO (mAm (X 11) j) k g (tr (mAm (X 11) j) m0 (k + 1) (if g = many then many + 1 else many) (trI (mAm (X 11) j) k g S))) g S).2.2.2)) rfl ?_
      refine V_aload_n dX8_tries_97 0 rfl ?_
      refine V_get dX8_tries_98 fX8_91 0 rfl rfl ?_
      refine V_iload dX8_tries_101 4 rfl ?_
      refine V_dup2 dX8_tries_103 rfl rfl ?_
      refine V_iald dX8_tries_104 7 rfl rfl g rfl (by omega) ?_
      refine V_aload_n dX8_tries_105 0 rfl ?_
      refine V_iload_n dX8_tries_106 1 rfl ?_
      refine V_iload_n dX8_tries_107 2 rfl ?_
      refine V_selfR dX8_tries_108 lX8_173 (e_M_amountOf w a th Z sn (upd ((foG (fun g S => trO (mAm (X 11) j) k g (tr (mAm (X 11) j) m0 (k + 1) (if g = many then many + 1 else many) (trI (mAm (X 11) j) k g S))) g S).1) k (nI g), (foG (fun g S => trO (mAm (X 11) j) k g (tr (mAm (X 11) j) m0 (k + 1) (if g = many then many + 1 else many) (trI (mAm (X 11) j) k g S))) g S).2.1, (foG (fun g S => trO (mAm (X 11) j) k g (tr (mAm (X 11) j) m0 (k + 1) (if g = many then many + 1 else many) (trI (mAm (X 11) j) k g S))) g S).2.2.1, (foG (fun g S => trO (mAm (X 11) j) k g (tr (mAm (X 11) j) m0 (k + 1) (if g = many then many + 1 else many) (trI (mAm (X 11) j) k g S))) g S).2.2.2).2.2.1 ps (uX (uX (uX X 16 (upd ((foG (fun g S => trO (mAm (X 11) j) k g (tr (mAm (X 11) j) m0 (k + 1) (if g = many then many + 1 else many) (trI (mAm (X 11) j) k g S))) g S).1) k (nI g), (foG (fun g S => trO (mAm (X 11) j) k g (tr (mAm (X 11) j) m0 (k + 1) (if g = many then many + 1 else many) (trI (mAm (X 11) j) k g S))) g S).2.1, (foG (fun g S => trO (mAm (X 11) j) k g (tr (mAm (X 11) j) m0 (k + 1) (if g = many then many + 1 else many) (trI (mAm (X 11) j) k g S))) g S).2.2.1, (foG (fun g S => trO (mAm (X 11) j) k g (tr (mAm (X 11) j) m0 (k + 1) (if g = many then many + 1 else many) (trI (mAm (X 11) j) k g S))) g S).2.2.2).1) 17 (upd ((foG (fun g S => trO (mAm (X 11) j) k g (tr (mAm (X 11) j) m0 (k + 1) (if g = many then many + 1 else many) (trI (mAm (X 11) j) k g S))) g S).1) k (nI g), (foG (fun g S => trO (mAm (X 11) j) k g (tr (mAm (X 11) j) m0 (k + 1) (if g = many then many + 1 else many) (trI (mAm (X 11) j) k g S))) g S).2.1, (foG (fun g S => trO (mAm (X 11) j) k g (tr (mAm (X 11) j) m0 (k + 1) (if g = many then many + 1 else many) (trI (mAm (X 11) j) k g S))) g S).2.2.1, (foG (fun g S => trO (mAm (X 11) j) k g (tr (mAm (X 11) j) m0 (k + 1) (if g = many then many + 1 else many) (trI (mAm (X 11) j) k g S))) g S).2.2.2).2.2.2) 18 (upd ((foG (fun g S => trO (mAm (X 11) j) k g (tr (mAm (X 11) j) m0 (k + 1) (if g = many then many + 1 else many) (trI (mAm (X 11) j) k g S))) g S).1) k (nI g), (foG (fun g S => trO (mAm (X 11) j) k g (tr (mAm (X 11) j) m0 (k + 1) (if g = many then many + 1 else many) (trI (mAm (X 11) j) k g S))) g S).2.1, (foG (fun g S => trO (mAm (X 11) j) k g (tr (mAm (X 11) j) m0 (k + 1) (if g = many then many + 1 else many) (trI (mAm (X 11) j) k g S))) g S).2.2.1, (foG (fun g S => trO (mAm (X 11) j) k g (tr (mAm (X 11) j) m0 (k + 1) (if g = many then many + 1 else many) (trI (mAm (X 11) j) k g S))) g S).2.2.2).2.1) j k (by omega)) rfl rfl 0 rfl rfl rfl (vchk_d (by omega) (by decide) (nb rfl)) ?_
      refine V_iadd dX8_tries_111 ?_
      refine V_iast dX8_tries_112 7 rfl rfl g rfl (by omega) (ws' := cTS w a th Z sn ps X (upd ((foG (fun g S => trO (mAm (X 11) j) k g (tr (mAm (X 11) j) m0 (k + 1) (if g = many then many + 1 else many) (trI (mAm (X 11) j) k g S))) g S).1) k (nI g), upd ((foG (fun g S => trO (mAm (X 11) j) k g (tr (mAm (X 11) j) m0 (k + 1) (if g = many then many + 1 else many) (trI (mAm (X 11) j) k g S))) g S).2.1) g ((((foG (fun g S => trO (mAm (X 11) j) k g (tr (mAm (X 11) j) m0 (k + 1) (if g = many then many + 1 else many) (trI (mAm (X 11) j) k g S))) g S).2.1) g) + (mAm (X 11) j k)), (foG (fun g S => trO (mAm (X 11) j) k g (tr (mAm (X 11) j) m0 (k + 1) (if g = many then many + 1 else many) (trI (mAm (X 11) j) k g S))) g S).2.2.1, (foG (fun g S => trO (mAm (X 11) j) k g (tr (mAm (X 11) j) m0 (k + 1) (if g = many then many + 1 else many) (trI (mAm (X 11) j) k g S))) g S).2.2.2)) rfl ?_
      refine V_aload_n dX8_tries_113 0 rfl ?_
      refine V_iload_n dX8_tries_114 1 rfl ?_
      refine V_iload_n dX8_tries_115 2 rfl ?_
      refine V_iconst 1 dX8_tries_116 (by decide) ?_
      refine V_iadd dX8_tries_117 ?_
      refine V_casti (y := nI (k + 1)) (nI_add k 1) ?_
      refine V_iload dX8_tries_118 4 rfl ?_
      refine V_iload_n dX8_tries_120 3 rfl ?_
      refine V_icmp_ne_n g many 130 dX8_tries_121 (by decide) (by omega) (by omega) (fun zc2 => ?_) (fun zc2 => ?_)
      · refine V_iload_n dX8_tries_130 3 rfl ?_
        have hct := hrec (k + 1) (if g = many then many + 1 else many) (trI (mAm (X 11) j) k g (foG (fun g S => trO (mAm (X 11) j) k g (tr (mAm (X 11) j) m0 (k + 1) (if g = many then many + 1 else many) (trI (mAm (X 11) j) k g S))) g S)) (by omega) (by split <;> omega) hgf
        rw [show [Value.ref (a 0), .int (nI j), .int (nI (k + 1)), .int (nI (if g = many then many + 1 else many))] = [Value.ref (a 0), .int (nI j), .int (nI (k + 1)), .int (nI (many))] by rw [if_neg (by omega)]] at hct
        refine V_selfE (ws' := cTS w a th Z sn ps X (tr (mAm (X 11) j) m0 (k + 1) (if g = many then many + 1 else many) (trI (mAm (X 11) j) k g (foG (fun g S => trO (mAm (X 11) j) k g (tr (mAm (X 11) j) m0 (k + 1) (if g = many then many + 1 else many) (trI (mAm (X 11) j) k g S))) g S)))) dX8_tries_131 lX8_192 hct rfl rfl 0 rfl rfl rfl (vchk_d (by omega) (by decide) (nb rfl)) ?_
        refine V_aload_n dX8_tries_134 0 rfl ?_
        refine V_get dX8_tries_135 fX8_91 0 rfl rfl ?_
        refine V_iload dX8_tries_138 4 rfl ?_
        refine V_dup2 dX8_tries_140 rfl rfl ?_
        refine V_iald dX8_tries_141 7 rfl rfl g rfl (by omega) ?_
        refine V_aload_n dX8_tries_142 0 rfl ?_
        refine V_iload_n dX8_tries_143 1 rfl ?_
        refine V_iload_n dX8_tries_144 2 rfl ?_
        refine V_selfR dX8_tries_145 lX8_173 (e_M_amountOf w a th Z sn (tr (mAm (X 11) j) m0 (k + 1) (if g = many then many + 1 else many) (trI (mAm (X 11) j) k g (foG (fun g S => trO (mAm (X 11) j) k g (tr (mAm (X 11) j) m0 (k + 1) (if g = many then many + 1 else many) (trI (mAm (X 11) j) k g S))) g S))).2.2.1 ps (uX (uX (uX X 16 (tr (mAm (X 11) j) m0 (k + 1) (if g = many then many + 1 else many) (trI (mAm (X 11) j) k g (foG (fun g S => trO (mAm (X 11) j) k g (tr (mAm (X 11) j) m0 (k + 1) (if g = many then many + 1 else many) (trI (mAm (X 11) j) k g S))) g S))).1) 17 (tr (mAm (X 11) j) m0 (k + 1) (if g = many then many + 1 else many) (trI (mAm (X 11) j) k g (foG (fun g S => trO (mAm (X 11) j) k g (tr (mAm (X 11) j) m0 (k + 1) (if g = many then many + 1 else many) (trI (mAm (X 11) j) k g S))) g S))).2.2.2) 18 (tr (mAm (X 11) j) m0 (k + 1) (if g = many then many + 1 else many) (trI (mAm (X 11) j) k g (foG (fun g S => trO (mAm (X 11) j) k g (tr (mAm (X 11) j) m0 (k + 1) (if g = many then many + 1 else many) (trI (mAm (X 11) j) k g S))) g S))).2.1) j k (by omega)) rfl rfl 0 rfl rfl rfl (vchk_d (by omega) (by decide) (nb rfl)) ?_
        refine V_isub dX8_tries_148 ?_
        refine V_iast dX8_tries_149 7 rfl rfl g rfl (by omega) (ws' := cTS w a th Z sn ps X ((tr (mAm (X 11) j) m0 (k + 1) (if g = many then many + 1 else many) (trI (mAm (X 11) j) k g (foG (fun g S => trO (mAm (X 11) j) k g (tr (mAm (X 11) j) m0 (k + 1) (if g = many then many + 1 else many) (trI (mAm (X 11) j) k g S))) g S))).1, upd ((tr (mAm (X 11) j) m0 (k + 1) (if g = many then many + 1 else many) (trI (mAm (X 11) j) k g (foG (fun g S => trO (mAm (X 11) j) k g (tr (mAm (X 11) j) m0 (k + 1) (if g = many then many + 1 else many) (trI (mAm (X 11) j) k g S))) g S))).2.1) g ((((tr (mAm (X 11) j) m0 (k + 1) (if g = many then many + 1 else many) (trI (mAm (X 11) j) k g (foG (fun g S => trO (mAm (X 11) j) k g (tr (mAm (X 11) j) m0 (k + 1) (if g = many then many + 1 else many) (trI (mAm (X 11) j) k g S))) g S))).2.1) g) - (mAm (X 11) j k)), (tr (mAm (X 11) j) m0 (k + 1) (if g = many then many + 1 else many) (trI (mAm (X 11) j) k g (foG (fun g S => trO (mAm (X 11) j) k g (tr (mAm (X 11) j) m0 (k + 1) (if g = many then many + 1 else many) (trI (mAm (X 11) j) k g S))) g S))).2.2.1, (tr (mAm (X 11) j) m0 (k + 1) (if g = many then many + 1 else many) (trI (mAm (X 11) j) k g (foG (fun g S => trO (mAm (X 11) j) k g (tr (mAm (X 11) j) m0 (k + 1) (if g = many then many + 1 else many) (trI (mAm (X 11) j) k g S))) g S))).2.2.2)) rfl ?_
        refine V_iinc (nI (g + 1)) dX8_tries_150 4 rfl (nI_i1 g) rfl (L' := [(0, .ref (a 0)), (1, .int (nI j)), (2, .int (nI k)), (3, .int (nI many)), (4, .int (nI (g + 1)))]) rfl ?_
        refine V_goto 83 dX8_tries_153 (by decide) ?_
        exact ih (g + 1) (by omega) (by omega)
      · refine V_iload_n dX8_tries_124 3 rfl ?_
        refine V_iconst 1 dX8_tries_125 (by decide) ?_
        refine V_iadd dX8_tries_126 ?_
        refine V_casti (y := nI (many + 1)) (nI_add many 1) ?_
        refine V_goto 131 dX8_tries_127 (by decide) ?_
        have hct := hrec (k + 1) (if g = many then many + 1 else many) (trI (mAm (X 11) j) k g (foG (fun g S => trO (mAm (X 11) j) k g (tr (mAm (X 11) j) m0 (k + 1) (if g = many then many + 1 else many) (trI (mAm (X 11) j) k g S))) g S)) (by omega) (by split <;> omega) hgf
        rw [show [Value.ref (a 0), .int (nI j), .int (nI (k + 1)), .int (nI (if g = many then many + 1 else many))] = [Value.ref (a 0), .int (nI j), .int (nI (k + 1)), .int (nI (many + 1))] by rw [if_pos (by omega)]] at hct
        refine V_selfE (ws' := cTS w a th Z sn ps X (tr (mAm (X 11) j) m0 (k + 1) (if g = many then many + 1 else many) (trI (mAm (X 11) j) k g (foG (fun g S => trO (mAm (X 11) j) k g (tr (mAm (X 11) j) m0 (k + 1) (if g = many then many + 1 else many) (trI (mAm (X 11) j) k g S))) g S)))) dX8_tries_131 lX8_192 hct rfl rfl 0 rfl rfl rfl (vchk_d (by omega) (by decide) (nb rfl)) ?_
        refine V_aload_n dX8_tries_134 0 rfl ?_
        refine V_get dX8_tries_135 fX8_91 0 rfl rfl ?_
        refine V_iload dX8_tries_138 4 rfl ?_
        refine V_dup2 dX8_tries_140 rfl rfl ?_
        refine V_iald dX8_tries_141 7 rfl rfl g rfl (by omega) ?_
        refine V_aload_n dX8_tries_142 0 rfl ?_
        refine V_iload_n dX8_tries_143 1 rfl ?_
        refine V_iload_n dX8_tries_144 2 rfl ?_
        refine V_selfR dX8_tries_145 lX8_173 (e_M_amountOf w a th Z sn (tr (mAm (X 11) j) m0 (k + 1) (if g = many then many + 1 else many) (trI (mAm (X 11) j) k g (foG (fun g S => trO (mAm (X 11) j) k g (tr (mAm (X 11) j) m0 (k + 1) (if g = many then many + 1 else many) (trI (mAm (X 11) j) k g S))) g S))).2.2.1 ps (uX (uX (uX X 16 (tr (mAm (X 11) j) m0 (k + 1) (if g = many then many + 1 else many) (trI (mAm (X 11) j) k g (foG (fun g S => trO (mAm (X 11) j) k g (tr (mAm (X 11) j) m0 (k + 1) (if g = many then many + 1 else many) (trI (mAm (X 11) j) k g S))) g S))).1) 17 (tr (mAm (X 11) j) m0 (k + 1) (if g = many then many + 1 else many) (trI (mAm (X 11) j) k g (foG (fun g S => trO (mAm (X 11) j) k g (tr (mAm (X 11) j) m0 (k + 1) (if g = many then many + 1 else many) (trI (mAm (X 11) j) k g S))) g S))).2.2.2) 18 (tr (mAm (X 11) j) m0 (k + 1) (if g = many then many + 1 else many) (trI (mAm (X 11) j) k g (foG (fun g S => trO (mAm (X 11) j) k g (tr (mAm (X 11) j) m0 (k + 1) (if g = many then many + 1 else many) (trI (mAm (X 11) j) k g S))) g S))).2.1) j k (by omega)) rfl rfl 0 rfl rfl rfl (vchk_d (by omega) (by decide) (nb rfl)) ?_
        refine V_isub dX8_tries_148 ?_
        refine V_iast dX8_tries_149 7 rfl rfl g rfl (by omega) (ws' := cTS w a th Z sn ps X ((tr (mAm (X 11) j) m0 (k + 1) (if g = many then many + 1 else many) (trI (mAm (X 11) j) k g (foG (fun g S => trO (mAm (X 11) j) k g (tr (mAm (X 11) j) m0 (k + 1) (if g = many then many + 1 else many) (trI (mAm (X 11) j) k g S))) g S))).1, upd ((tr (mAm (X 11) j) m0 (k + 1) (if g = many then many + 1 else many) (trI (mAm (X 11) j) k g (foG (fun g S => trO (mAm (X 11) j) k g (tr (mAm (X 11) j) m0 (k + 1) (if g = many then many + 1 else many) (trI (mAm (X 11) j) k g S))) g S))).2.1) g ((((tr (mAm (X 11) j) m0 (k + 1) (if g = many then many + 1 else many) (trI (mAm (X 11) j) k g (foG (fun g S => trO (mAm (X 11) j) k g (tr (mAm (X 11) j) m0 (k + 1) (if g = many then many + 1 else many) (trI (mAm (X 11) j) k g S))) g S))).2.1) g) - (mAm (X 11) j k)), (tr (mAm (X 11) j) m0 (k + 1) (if g = many then many + 1 else many) (trI (mAm (X 11) j) k g (foG (fun g S => trO (mAm (X 11) j) k g (tr (mAm (X 11) j) m0 (k + 1) (if g = many then many + 1 else many) (trI (mAm (X 11) j) k g S))) g S))).2.2.1, (tr (mAm (X 11) j) m0 (k + 1) (if g = many then many + 1 else many) (trI (mAm (X 11) j) k g (foG (fun g S => trO (mAm (X 11) j) k g (tr (mAm (X 11) j) m0 (k + 1) (if g = many then many + 1 else many) (trI (mAm (X 11) j) k g S))) g S))).2.2.2)) rfl ?_
        refine V_iinc (nI (g + 1)) dX8_tries_150 4 rfl (nI_i1 g) rfl (L' := [(0, .ref (a 0)), (1, .int (nI j)), (2, .int (nI k)), (3, .int (nI many)), (4, .int (nI (g + 1)))]) rfl ?_
        refine V_goto 83 dX8_tries_153 (by decide) ?_
        exact ih (g + 1) (by omega) (by omega)

set_option maxRecDepth 100000 in
set_option maxHeartbeats 4000000 in
theorem e_M_triesS (w : vWd) (a : Nat → Nat) (th : Int32) (Z : ZT) (sn ps : Nat) (X : Nat → Nat → Int32) (j : Nat) (na nj : Nat) (nl : Nat → Nat) (ac : Nat → Nat → Nat) (hN : okN (X 11) na nj nl ac) (hj : j < nj) (d m0 : Nat) (hrec : ∀ (k many : Nat) (S : TS), k + m0 = nl j → many ≤ k → S.2.2.1 ≤ 6 → Ct w mX8_tries (d + 2) 0 0 [.ref (a 0), .int (nI j), .int (nI k), .int (nI many)] (cTS w a th Z sn ps X S) (qE none (cTS w a th Z sn ps X (tr (mAm (X 11) j) m0 k many S)))) (k many : Nat) (S : TS) (hkm : k + (m0 + 1) = nl j) (hm : many ≤ k) (hgs : S.2.2.1 ≤ 6) : Ct w mX8_tries (d + 3) 0 0 [.ref (a 0), .int (nI j), .int (nI k), .int (nI many)] (cTS w a th Z sn ps X S) (qE none (cTS w a th Z sn ps X (tr (mAm (X 11) j) (m0 + 1) k many S))) := by
  refine Ct.of (L := [(0, .ref (a 0)), (1, .int (nI j)), (2, .int (nI k)), (3, .int (nI many))]) (by decide) rfl rfl ?_
  obtain ⟨hn0, hn1, hna, hnj, hnl, hac⟩ := id hN
  obtain ⟨hl1, hl2⟩ := hnl j hj
  refine V_iload_n dX8_tries_0 2 rfl ?_
  refine V_aload_n dX8_tries_1 0 rfl ?_
  refine V_iload_n dX8_tries_2 1 rfl ?_
  refine V_iconst 2 dX8_tries_3 (by decide) ?_
  refine V_selfR dX8_tries_4 lX8_167 (e_M_told w a th Z sn S.2.2.1 ps (uX (uX (uX X 16 S.1) 17 S.2.2.2) 18 S.2.1) j 2 (by omega)) rfl rfl 0 rfl rfl rfl (vchk_d (by omega) (by decide) (nb rfl)) ?_
  refine V_casti (y := nI (nl j)) hl1 ?_
  refine V_icmp_ne_t 80 dX8_tries_7 (by decide) (fun z => absurd ((nI_eq (by omega) (by omega)).mp z) (by omega)) ?_
  refine V_iconst 0 dX8_tries_80 (by decide) ?_
  refine V_istore dX8_tries_81 rfl (L' := [(0, .ref (a 0)), (1, .int (nI j)), (2, .int (nI k)), (3, .int (nI many)), (4, .int 0)]) rfl ?_
  exact lp_M_tr3 w a th Z sn ps X j na nj nl ac hN hj d m0 hrec k many S hkm hm hgs (many + 2) 0 (by omega) (by omega)

theorem e_M_tries (w : vWd) (a : Nat → Nat) (th : Int32) (Z : ZT) (sn ps : Nat) (X : Nat → Nat → Int32) (j : Nat) (na nj : Nat) (nl : Nat → Nat) (ac : Nat → Nat → Nat) (hN : okN (X 11) na nj nl ac) (hj : j < nj) : ∀ (m0 k many : Nat) (S : TS), k + m0 = nl j → many ≤ k → S.2.2.1 ≤ 6 → Ct w mX8_tries (m0 + 2) 0 0 [.ref (a 0), .int (nI j), .int (nI k), .int (nI many)] (cTS w a th Z sn ps X S) (qE none (cTS w a th Z sn ps X (tr (mAm (X 11) j) m0 k many S)))
  | 0, k, many, S, h1, h2, h3 => e_M_tries0 w a th Z sn ps X j na nj nl ac hN hj k many S (by omega) h2 h3
  | m0 + 1, k, many, S, h1, h2, h3 => e_M_triesS w a th Z sn ps X j na nj nl ac hN hj m0 m0 (e_M_tries w a th Z sn ps X j na nj nl ac hN hj m0) k many S h1 h2 h3
