/-! 24: the reference: explains, isCounted, bit, traced -/
/-- a journal's number, or none: moved up by one -/
abbrev sI : Nat → Int32 | 0 => -1 | n + 1 => nI n
theorem sI_cl {t : Nat} (h : t ≤ 40) : (sI t).toInt = (t : Int) - 1 := by
  cases t with
  | zero => decide
  | succ n => show (nI n).toInt = _; rw [nI_toInt (by omega)]; omega
theorem sI_0 {t : Nat} (h : t ≤ 40) (e : sI t = -1) : t = 0 := by
  have h1 := sI_cl h
  rw [e] at h1
  have h2 : (-1 : Int32).toInt = -1 := by decide
  omega
theorem sI_p {t : Nat} (e : ¬ sI t = -1) : ∃ j, t = j + 1 := by
  cases t with
  | zero => exact absurd rfl e
  | succ n => exact ⟨n, rfl⟩
theorem sI_le {s t : Nat} (hs : s ≤ 40) (ht : t ≤ 40) : sI s ≤ sI t ↔ s ≤ t := by
  rw [Int32.le_iff_toInt_le, sI_cl hs, sI_cl ht]; omega
theorem sI_i1 {t : Nat} (h : t ≤ 39) : sI t + Int32.ofInt 1 = sI (t + 1) := by
  cases t with
  | zero => decide
  | succ n => exact nI_i1 n
abbrev sM (N : Nat → Int32) (nl : Nat → Nat) (a : Nat) : Nat → Int32 | 0 => 0 | j + 1 => mNet N j (nI a) (nl j)
abbrev cntd (N : Nat → Int32) : Nat → Bool | 0 => true | j + 1 => decide (N (50 + 15 * j + 1) = 0)
abbrev bitS : Nat → Int32 | 0 => 0 | j + 1 => 1 <<< (nI j &&& 31)
abbrev exB (N O : Nat → Int32) (nl : Nat → Nat) (x y z i : Nat) : Int32 := O i + sM N nl i x + sM N nl i y + sM N nl i z
def mEx (N O : Nat → Int32) (nl : Nat → Nat) (na x y z : Nat) : Bool := decide (∀ i, i < na → (N (2 + 4 * i + 2) = 0 ∨ exB N O nl x y z i = 0))
def fnd (f : Nat → Option Int32) : Nat → Nat → Option Int32
  | 0, _ => none
  | n + 1, t => match f t with | some v => some v | none => fnd f n (t + 1)
theorem fnd_0 {f : Nat → Option Int32} {t : Nat} : fnd f 0 t = none := rfl
theorem fnd_n {f : Nat → Option Int32} {n t : Nat} (h : f t = none) : fnd f (n + 1) t = fnd f n (t + 1) := by rw [fnd, h]
theorem fnd_s {f : Nat → Option Int32} {n t : Nat} {v : Int32} (h : f t = some v) : fnd f (n + 1) t = some v := by rw [fnd, h]
def tG (N O : Nat → Int32) (nl : Nat → Nat) (na x y z : Nat) : Option Int32 := if (cntd N x && cntd N y && cntd N z && mEx N O nl na x y z) = true then some (bitS x ||| bitS y ||| bitS z) else none

set_option maxRecDepth 100000 in
set_option maxHeartbeats 4000000 in
theorem c_M_bit (w : vWd) (t : Nat) (ht : t ≤ 31) : Ct w mX8_bit 0 0 0 [.int (sI t)] ([]) (qE (some (.int (bitS t))) []) := by
  refine Ct.of (L := [(0, .int (sI t))]) (by decide) rfl rfl ?_
  refine V_iload_n dX8_bit_0 0 rfl ?_
  refine V_iconst (-1) dX8_bit_1 (by decide) ?_
  refine V_icmp_ne 9 dX8_bit_2 (by decide) (fun zc1 => ?_) (fun zc1 => ?_)
  · obtain ⟨j, rfl⟩ := sI_p zc1
    refine V_iconst 1 dX8_bit_9 (by decide) ?_
    refine V_iload_n dX8_bit_10 0 rfl ?_
    refine V_ishl dX8_bit_11 ?_
    exact V_iret dX8_bit_12 rfl (nb rfl) (nb rfl) ⟨rfl, rfl⟩
  · obtain rfl := sI_0 (by omega) zc1
    refine V_iconst 0 dX8_bit_5 (by decide) ?_
    refine V_goto 12 dX8_bit_6 (by decide) ?_
    exact V_iret dX8_bit_12 rfl (nb rfl) (nb rfl) ⟨rfl, rfl⟩

set_option maxRecDepth 100000 in
set_option maxHeartbeats 4000000 in
theorem e_M_isCounted (w : vWd) (a : Nat → Nat) (th : Int32) (Z : ZT) (sn gs ps : Nat) (X : Nat → Nat → Int32) (t : Nat) (ht : t ≤ 30) : Ct w mX8_isCounted 1 0 0 [.ref (a 0), .int (sI t)] (cG w a th Z sn gs ps X) (qE (some (.int (bi (cntd (X 11) t)))) (cG w a th Z sn gs ps X)) := by
  refine Ct.of (L := [(0, .ref (a 0)), (1, .int (sI t))]) (by decide) rfl rfl ?_
  refine V_iload_n dX8_isCounted_0 1 rfl ?_
  refine V_iconst (-1) dX8_isCounted_1 (by decide) ?_
  refine V_icmp_eq 14 dX8_isCounted_2 (by decide) (fun zc1 => ?_) (fun zc1 => ?_)
  · obtain rfl := sI_0 (by omega) zc1
    refine V_iconst 1 dX8_isCounted_14 (by decide) ?_
    refine V_goto 19 dX8_isCounted_15 (by decide) ?_
    exact V_zret dX8_isCounted_19 rfl rfl (nb rfl) (nb rfl) ⟨by clear w a th Z sn gs ps; grind [bi], rfl⟩
  · obtain ⟨j, rfl⟩ := sI_p zc1
    refine V_aload_n dX8_isCounted_5 0 rfl ?_
    refine V_iload_n dX8_isCounted_6 1 rfl ?_
    refine V_iconst 1 dX8_isCounted_7 (by decide) ?_
    refine V_selfR dX8_isCounted_8 lX8_167 (e_M_told w a th Z sn gs ps X j 1 (by omega)) rfl rfl 0 rfl rfl rfl rfl ?_
    refine V_if_ne 18 dX8_isCounted_11 (by decide) (fun zc2 => ?_) (fun zc2 => ?_)
    · refine V_iconst 0 dX8_isCounted_18 (by decide) ?_
      exact V_zret dX8_isCounted_19 rfl rfl (nb rfl) (nb rfl) ⟨by clear w a th Z sn gs ps; grind [bi], rfl⟩
    · refine V_iconst 1 dX8_isCounted_14 (by decide) ?_
      refine V_goto 19 dX8_isCounted_15 (by decide) ?_
      exact V_zret dX8_isCounted_19 rfl rfl (nb rfl) (nb rfl) ⟨by clear w a th Z sn gs ps; grind [bi], rfl⟩

set_option maxRecDepth 100000 in
set_option maxHeartbeats 4000000 in
theorem lp_M_explains (w : vWd) (a : Nat → Nat) (th : Int32) (Z : ZT) (sn gs ps : Nat) (X : Nat → Nat → Int32) (x y z : Nat) (na nj : Nat) (nl : Nat → Nat) (ac : Nat → Nat → Nat) (hN : okN (X 11) na nj nl ac) (hx : x ≤ nj) (hy : y ≤ nj) (hz : z ≤ nj) : ∀ (m : Nat) (k : Nat), (na + 1 ≤ k + m) → (k ≤ na) → (∀ i, i < k → (X 11 (2 + 4 * i + 2) = 0 ∨ exB (X 11) (X 25) nl x y z i = 0)) → V w mX8_explains (vc w 3 0 0 (qE (some (.int (bi (mEx (X 11) (X 25) nl na x y z)))) (cG w a th Z sn gs ps X))) 0 0 3 [(0, .ref (a 0)), (1, .int (sI x)), (2, .int (sI y)), (3, .int (sI z)), (4, .int (nI k))] [] (cG w a th Z sn gs ps X) := by
  intro m
  induction m with
  | zero =>
    intro k h1 h2 hg
    exact absurd h1 (by omega)
  | succ m ih =>
    intro k h1 h2 hg
    obtain ⟨hn0, hn1, hna, hnj, hnl, hac⟩ := id hN
    refine V_iload dX8_explains_3 4 rfl ?_
    refine V_aload_n dX8_explains_5 0 rfl ?_
    refine V_get dX8_explains_6 fX8_76 0 rfl rfl ?_
    refine V_iconst 0 dX8_explains_9 (by decide) ?_
    refine V_iald dX8_explains_10 2 rfl rfl 0 rfl (by omega) ?_
    refine V_casti (y := nI na) hn0 ?_
    refine V_icmp_ge_n k na 100 dX8_explains_11 (by decide) (by omega) (by omega) (fun zc1 => ?_) (fun zc1 => ?_)
    · refine V_iconst 1 dX8_explains_100 (by decide) ?_
      exact V_zret dX8_explains_101 rfl rfl (nb rfl) (nb rfl) ⟨by rw [mEx, decide_eq_true (fun i hi => hg i (by omega))]; rfl, rfl⟩
    · refine V_aload_n dX8_explains_14 0 rfl ?_
      refine V_iload dX8_explains_15 4 rfl ?_
      refine V_iconst 2 dX8_explains_17 (by decide) ?_
      refine V_selfR dX8_explains_18 lX8_163 (e_M_its w a th Z sn gs ps X k 2 (by omega)) rfl rfl 0 rfl rfl rfl rfl ?_
      refine V_if_ne 27 dX8_explains_21 (by decide) (fun zc2 => ?_) (fun zc2 => ?_)
      · have zt := zc2
        refine V_aload_n dX8_explains_27 0 rfl ?_
        refine V_get dX8_explains_28 fX8_106 0 rfl rfl ?_
        refine V_iload dX8_explains_31 4 rfl ?_
        refine V_iald dX8_explains_33 12 rfl rfl k rfl (by omega) ?_
        refine V_iload_n dX8_explains_34 1 rfl ?_
        refine V_iconst (-1) dX8_explains_35 (by decide) ?_
        refine V_icmp_ne 43 dX8_explains_36 (by decide) (fun zc3 => ?_) (fun zc3 => ?_)
        · have zxx := zc3
          obtain ⟨xj, rfl⟩ := sI_p zxx
          refine V_aload_n dX8_explains_43 0 rfl ?_
          refine V_iload_n dX8_explains_44 1 rfl ?_
          refine V_iload dX8_explains_45 4 rfl ?_
          refine V_selfR dX8_explains_47 lX8_179 (e_M_moved w a th Z sn gs ps X xj (nI k) na nj nl ac hN (by omega)) rfl rfl 0 rfl rfl rfl rfl ?_
          refine V_iadd dX8_explains_50 ?_
          refine V_iload_n dX8_explains_51 2 rfl ?_
          refine V_iconst (-1) dX8_explains_52 (by decide) ?_
          refine V_icmp_ne 60 dX8_explains_53 (by decide) (fun zc4 => ?_) (fun zc4 => ?_)
          · have zxy := zc4
            obtain ⟨yj, rfl⟩ := sI_p zxy
            refine V_aload_n dX8_explains_60 0 rfl ?_
            refine V_iload_n dX8_explains_61 2 rfl ?_
            refine V_iload dX8_explains_62 4 rfl ?_
            refine V_selfR dX8_explains_64 lX8_179 (e_M_moved w a th Z sn gs ps X yj (nI k) na nj nl ac hN (by omega)) rfl rfl 0 rfl rfl rfl rfl ?_
            refine V_iadd dX8_explains_67 ?_
            refine V_iload_n dX8_explains_68 3 rfl ?_
            refine V_iconst (-1) dX8_explains_69 (by decide) ?_
            refine V_icmp_ne 77 dX8_explains_70 (by decide) (fun zc5 => ?_) (fun zc5 => ?_)
            · have zxz := zc5
              obtain ⟨zj, rfl⟩ := sI_p zxz
              refine V_aload_n dX8_explains_77 0 rfl ?_
              refine V_iload_n dX8_explains_78 3 rfl ?_
              refine V_iload dX8_explains_79 4 rfl ?_
              refine V_selfR dX8_explains_81 lX8_179 (e_M_moved w a th Z sn gs ps X zj (nI k) na nj nl ac hN (by omega)) rfl rfl 0 rfl rfl rfl rfl ?_
              refine V_iadd dX8_explains_84 ?_
              refine V_istore dX8_explains_85 rfl (L' := [(0, .ref (a 0)), (1, .int (nI xj)), (2, .int (nI yj)), (3, .int (nI zj)), (4, .int (nI k)), (5, .int (((((X 25) k) + (mNet (X 11) xj (nI k) (nl xj))) + (mNet (X 11) yj (nI k) (nl yj))) + (mNet (X 11) zj (nI k) (nl zj))))]) rfl ?_
              refine V_iload dX8_explains_87 5 rfl ?_
              refine V_if_eq 94 dX8_explains_89 (by decide) (fun zc6 => ?_) (fun zc6 => ?_)
              · have zn := zc6
                refine V_iinc (nI (k + 1)) dX8_explains_94 4 rfl (nI_i1 k) rfl (L' := [(0, .ref (a 0)), (1, .int (nI xj)), (2, .int (nI yj)), (3, .int (nI zj)), (4, .int (nI (k + 1))), (5, .int (((((X 25) k) + (mNet (X 11) xj (nI k) (nl xj))) + (mNet (X 11) yj (nI k) (nl yj))) + (mNet (X 11) zj (nI k) (nl zj))))]) rfl ?_
                refine V_goto 3 dX8_explains_97 (by decide) ?_
                refine V_dropL (L' := [(0, .ref (a 0)), (1, .int (nI xj)), (2, .int (nI yj)), (3, .int (nI zj)), (4, .int (nI (k + 1)))]) (L'' := [(5, .int (((((X 25) k) + (mNet (X 11) xj (nI k) (nl xj))) + (mNet (X 11) yj (nI k) (nl yj))) + (mNet (X 11) zj (nI k) (nl zj))))]) rfl ?_
                refine ih (k + 1) (by omega) (by omega) (fun i hi => ?_)
                by_cases hik : i < k
                · exact hg i hik
                · obtain rfl : i = k := by omega
                  exact Or.inr zn
              · have zn := zc6
                refine V_iconst 0 dX8_explains_92 (by decide) ?_
                exact V_zret dX8_explains_93 rfl rfl (nb rfl) (nb rfl) ⟨by rw [mEx, decide_eq_false (fun hA => (hA k (by omega)).elim zt zn)]; rfl, rfl⟩
            · have zxz := zc5
              obtain rfl := sI_0 (by omega) zxz
              refine V_iconst 0 dX8_explains_73 (by decide) ?_
              refine V_goto 84 dX8_explains_74 (by decide) ?_
              refine V_iadd dX8_explains_84 ?_
              refine V_istore dX8_explains_85 rfl (L' := [(0, .ref (a 0)), (1, .int (nI xj)), (2, .int (nI yj)), (3, .int (-1)), (4, .int (nI k)), (5, .int (((((X 25) k) + (mNet (X 11) xj (nI k) (nl xj))) + (mNet (X 11) yj (nI k) (nl yj))) + 0))]) rfl ?_
              refine V_iload dX8_explains_87 5 rfl ?_
              refine V_if_eq 94 dX8_explains_89 (by decide) (fun zc7 => ?_) (fun zc7 => ?_)
              · have zn := zc7
                refine V_iinc (nI (k + 1)) dX8_explains_94 4 rfl (nI_i1 k) rfl (L' := [(0, .ref (a 0)), (1, .int (nI xj)), (2, .int (nI yj)), (3, .int (-1)), (4, .int (nI (k + 1))), (5, .int (((((X 25) k) + (mNet (X 11) xj (nI k) (nl xj))) + (mNet (X 11) yj (nI k) (nl yj))) + 0))]) rfl ?_
                refine V_goto 3 dX8_explains_97 (by decide) ?_
                refine V_dropL (L' := [(0, .ref (a 0)), (1, .int (nI xj)), (2, .int (nI yj)), (3, .int (-1)), (4, .int (nI (k + 1)))]) (L'' := [(5, .int (((((X 25) k) + (mNet (X 11) xj (nI k) (nl xj))) + (mNet (X 11) yj (nI k) (nl yj))) + 0))]) rfl ?_
                refine ih (k + 1) (by omega) (by omega) (fun i hi => ?_)
                by_cases hik : i < k
                · exact hg i hik
                · obtain rfl : i = k := by omega
                  exact Or.inr zn
              · have zn := zc7
                refine V_iconst 0 dX8_explains_92 (by decide) ?_
                exact V_zret dX8_explains_93 rfl rfl (nb rfl) (nb rfl) ⟨by rw [mEx, decide_eq_false (fun hA => (hA k (by omega)).elim zt zn)]; rfl, rfl⟩
          · have zxy := zc4
            obtain rfl := sI_0 (by omega) zxy
            refine V_iconst 0 dX8_explains_56 (by decide) ?_
            refine V_goto 67 dX8_explains_57 (by decide) ?_
            refine V_iadd dX8_explains_67 ?_
            refine V_iload_n dX8_explains_68 3 rfl ?_
            refine V_iconst (-1) dX8_explains_69 (by decide) ?_
            refine V_icmp_ne 77 dX8_explains_70 (by decide) (fun zc8 => ?_) (fun zc8 => ?_)
            · have zxz := zc8
              obtain ⟨zj, rfl⟩ := sI_p zxz
              refine V_aload_n dX8_explains_77 0 rfl ?_
              refine V_iload_n dX8_explains_78 3 rfl ?_
              refine V_iload dX8_explains_79 4 rfl ?_
              refine V_selfR dX8_explains_81 lX8_179 (e_M_moved w a th Z sn gs ps X zj (nI k) na nj nl ac hN (by omega)) rfl rfl 0 rfl rfl rfl rfl ?_
              refine V_iadd dX8_explains_84 ?_
              refine V_istore dX8_explains_85 rfl (L' := [(0, .ref (a 0)), (1, .int (nI xj)), (2, .int (-1)), (3, .int (nI zj)), (4, .int (nI k)), (5, .int (((((X 25) k) + (mNet (X 11) xj (nI k) (nl xj))) + 0) + (mNet (X 11) zj (nI k) (nl zj))))]) rfl ?_
              refine V_iload dX8_explains_87 5 rfl ?_
              refine V_if_eq 94 dX8_explains_89 (by decide) (fun zc9 => ?_) (fun zc9 => ?_)
              · have zn := zc9
                refine V_iinc (nI (k + 1)) dX8_explains_94 4 rfl (nI_i1 k) rfl (L' := [(0, .ref (a 0)), (1, .int (nI xj)), (2, .int (-1)), (3, .int (nI zj)), (4, .int (nI (k + 1))), (5, .int (((((X 25) k) + (mNet (X 11) xj (nI k) (nl xj))) + 0) + (mNet (X 11) zj (nI k) (nl zj))))]) rfl ?_
                refine V_goto 3 dX8_explains_97 (by decide) ?_
                refine V_dropL (L' := [(0, .ref (a 0)), (1, .int (nI xj)), (2, .int (-1)), (3, .int (nI zj)), (4, .int (nI (k + 1)))]) (L'' := [(5, .int (((((X 25) k) + (mNet (X 11) xj (nI k) (nl xj))) + 0) + (mNet (X 11) zj (nI k) (nl zj))))]) rfl ?_
                refine ih (k + 1) (by omega) (by omega) (fun i hi => ?_)
                by_cases hik : i < k
                · exact hg i hik
                · obtain rfl : i = k := by omega
                  exact Or.inr zn
              · have zn := zc9
                refine V_iconst 0 dX8_explains_92 (by decide) ?_
                exact V_zret dX8_explains_93 rfl rfl (nb rfl) (nb rfl) ⟨by rw [mEx, decide_eq_false (fun hA => (hA k (by omega)).elim zt zn)]; rfl, rfl⟩
            · have zxz := zc8
              obtain rfl := sI_0 (by omega) zxz
              refine V_iconst 0 dX8_explains_73 (by decide) ?_
              refine V_goto 84 dX8_explains_74 (by decide) ?_
              refine V_iadd dX8_explains_84 ?_
              refine V_istore dX8_explains_85 rfl (L' := [(0, .ref (a 0)), (1, .int (nI xj)), (2, .int (-1)), (3, .int (-1)), (4, .int (nI k)), (5, .int (((((X 25) k) + (mNet (X 11) xj (nI k) (nl xj))) + 0) + 0))]) rfl ?_
              refine V_iload dX8_explains_87 5 rfl ?_
              refine V_if_eq 94 dX8_explains_89 (by decide) (fun zc10 => ?_) (fun zc10 => ?_)
              · have zn := zc10
                refine V_iinc (nI (k + 1)) dX8_explains_94 4 rfl (nI_i1 k) rfl (L' := [(0, .ref (a 0)), (1, .int (nI xj)), (2, .int (-1)), (3, .int (-1)), (4, .int (nI (k + 1))), (5, .int (((((X 25) k) + (mNet (X 11) xj (nI k) (nl xj))) + 0) + 0))]) rfl ?_
                refine V_goto 3 dX8_explains_97 (by decide) ?_
                refine V_dropL (L' := [(0, .ref (a 0)), (1, .int (nI xj)), (2, .int (-1)), (3, .int (-1)), (4, .int (nI (k + 1)))]) (L'' := [(5, .int (((((X 25) k) + (mNet (X 11) xj (nI k) (nl xj))) + 0) + 0))]) rfl ?_
                refine ih (k + 1) (by omega) (by omega) (fun i hi => ?_)
                by_cases hik : i < k
                · exact hg i hik
                · obtain rfl : i = k := by omega
                  exact Or.inr zn
              · have zn := zc10
                refine V_iconst 0 dX8_explains_92 (by decide) ?_
                exact V_zret dX8_explains_93 rfl rfl (nb rfl) (nb rfl) ⟨by rw [mEx, decide_eq_false (fun hA => (hA k (by omega)).elim zt zn)]; rfl, rfl⟩
        · have zxx := zc3
          obtain rfl := sI_0 (by omega) zxx
          refine V_iconst 0 dX8_explains_39 (by decide) ?_
          refine V_goto 50 dX8_explains_40 (by decide) ?_
          refine V_iadd dX8_explains_50 ?_
          refine V_iload_n dX8_explains_51 2 rfl ?_
          refine V_iconst (-1) dX8_explains_52 (by decide) ?_
          refine V_icmp_ne 60 dX8_explains_53 (by decide) (fun zc11 => ?_) (fun zc11 => ?_)
          · have zxy := zc11
            obtain ⟨yj, rfl⟩ := sI_p zxy
            refine V_aload_n dX8_explains_60 0 rfl ?_
            refine V_iload_n dX8_explains_61 2 rfl ?_
            refine V_iload dX8_explains_62 4 rfl ?_
            refine V_selfR dX8_explains_64 lX8_179 (e_M_moved w a th Z sn gs ps X yj (nI k) na nj nl ac hN (by omega)) rfl rfl 0 rfl rfl rfl rfl ?_
            refine V_iadd dX8_explains_67 ?_
            refine V_iload_n dX8_explains_68 3 rfl ?_
            refine V_iconst (-1) dX8_explains_69 (by decide) ?_
            refine V_icmp_ne 77 dX8_explains_70 (by decide) (fun zc12 => ?_) (fun zc12 => ?_)
            · have zxz := zc12
              obtain ⟨zj, rfl⟩ := sI_p zxz
              refine V_aload_n dX8_explains_77 0 rfl ?_
              refine V_iload_n dX8_explains_78 3 rfl ?_
              refine V_iload dX8_explains_79 4 rfl ?_
              refine V_selfR dX8_explains_81 lX8_179 (e_M_moved w a th Z sn gs ps X zj (nI k) na nj nl ac hN (by omega)) rfl rfl 0 rfl rfl rfl rfl ?_
              refine V_iadd dX8_explains_84 ?_
              refine V_istore dX8_explains_85 rfl (L' := [(0, .ref (a 0)), (1, .int (-1)), (2, .int (nI yj)), (3, .int (nI zj)), (4, .int (nI k)), (5, .int (((((X 25) k) + 0) + (mNet (X 11) yj (nI k) (nl yj))) + (mNet (X 11) zj (nI k) (nl zj))))]) rfl ?_
              refine V_iload dX8_explains_87 5 rfl ?_
              refine V_if_eq 94 dX8_explains_89 (by decide) (fun zc13 => ?_) (fun zc13 => ?_)
              · have zn := zc13
                refine V_iinc (nI (k + 1)) dX8_explains_94 4 rfl (nI_i1 k) rfl (L' := [(0, .ref (a 0)), (1, .int (-1)), (2, .int (nI yj)), (3, .int (nI zj)), (4, .int (nI (k + 1))), (5, .int (((((X 25) k) + 0) + (mNet (X 11) yj (nI k) (nl yj))) + (mNet (X 11) zj (nI k) (nl zj))))]) rfl ?_
                refine V_goto 3 dX8_explains_97 (by decide) ?_
                refine V_dropL (L' := [(0, .ref (a 0)), (1, .int (-1)), (2, .int (nI yj)), (3, .int (nI zj)), (4, .int (nI (k + 1)))]) (L'' := [(5, .int (((((X 25) k) + 0) + (mNet (X 11) yj (nI k) (nl yj))) + (mNet (X 11) zj (nI k) (nl zj))))]) rfl ?_
                refine ih (k + 1) (by omega) (by omega) (fun i hi => ?_)
                by_cases hik : i < k
                · exact hg i hik
                · obtain rfl : i = k := by omega
                  exact Or.inr zn
              · have zn := zc13
                refine V_iconst 0 dX8_explains_92 (by decide) ?_
                exact V_zret dX8_explains_93 rfl rfl (nb rfl) (nb rfl) ⟨by rw [mEx, decide_eq_false (fun hA => (hA k (by omega)).elim zt zn)]; rfl, rfl⟩
            · have zxz := zc12
              obtain rfl := sI_0 (by omega) zxz
              refine V_iconst 0 dX8_explains_73 (by decide) ?_
              refine V_goto 84 dX8_explains_74 (by decide) ?_
              refine V_iadd dX8_explains_84 ?_
              refine V_istore dX8_explains_85 rfl (L' := [(0, .ref (a 0)), (1, .int (-1)), (2, .int (nI yj)), (3, .int (-1)), (4, .int (nI k)), (5, .int (((((X 25) k) + 0) + (mNet (X 11) yj (nI k) (nl yj))) + 0))]) rfl ?_
              refine V_iload dX8_explains_87 5 rfl ?_
              refine V_if_eq 94 dX8_explains_89 (by decide) (fun zc14 => ?_) (fun zc14 => ?_)
              · have zn := zc14
                refine V_iinc (nI (k + 1)) dX8_explains_94 4 rfl (nI_i1 k) rfl (L' := [(0, .ref (a 0)), (1, .int (-1)), (2, .int (nI yj)), (3, .int (-1)), (4, .int (nI (k + 1))), (5, .int (((((X 25) k) + 0) + (mNet (X 11) yj (nI k) (nl yj))) + 0))]) rfl ?_
                refine V_goto 3 dX8_explains_97 (by decide) ?_
                refine V_dropL (L' := [(0, .ref (a 0)), (1, .int (-1)), (2, .int (nI yj)), (3, .int (-1)), (4, .int (nI (k + 1)))]) (L'' := [(5, .int (((((X 25) k) + 0) + (mNet (X 11) yj (nI k) (nl yj))) + 0))]) rfl ?_
                refine ih (k + 1) (by omega) (by omega) (fun i hi => ?_)
                by_cases hik : i < k
                · exact hg i hik
                · obtain rfl : i = k := by omega
                  exact Or.inr zn
              · have zn := zc14
                refine V_iconst 0 dX8_explains_92 (by decide) ?_
                exact V_zret dX8_explains_93 rfl rfl (nb rfl) (nb rfl) ⟨by rw [mEx, decide_eq_false (fun hA => (hA k (by omega)).elim zt zn)]; rfl, rfl⟩
          · have zxy := zc11
            obtain rfl := sI_0 (by omega) zxy
            refine V_iconst 0 dX8_explains_56 (by decide) ?_
            refine V_goto 67 dX8_explains_57 (by decide) ?_
            refine V_iadd dX8_explains_67 ?_
            refine V_iload_n dX8_explains_68 3 rfl ?_
            refine V_iconst (-1) dX8_explains_69 (by decide) ?_
            refine V_icmp_ne 77 dX8_explains_70 (by decide) (fun zc15 => ?_) (fun zc15 => ?_)
            · have zxz := zc15
              obtain ⟨zj, rfl⟩ := sI_p zxz
              refine V_aload_n dX8_explains_77 0 rfl ?_
              refine V_iload_n dX8_explains_78 3 rfl ?_
              refine V_iload dX8_explains_79 4 rfl ?_
              refine V_selfR dX8_explains_81 lX8_179 (e_M_moved w a th Z sn gs ps X zj (nI k) na nj nl ac hN (by omega)) rfl rfl 0 rfl rfl rfl rfl ?_
              refine V_iadd dX8_explains_84 ?_
              refine V_istore dX8_explains_85 rfl (L' := [(0, .ref (a 0)), (1, .int (-1)), (2, .int (-1)), (3, .int (nI zj)), (4, .int (nI k)), (5, .int (((((X 25) k) + 0) + 0) + (mNet (X 11) zj (nI k) (nl zj))))]) rfl ?_
              refine V_iload dX8_explains_87 5 rfl ?_
              refine V_if_eq 94 dX8_explains_89 (by decide) (fun zc16 => ?_) (fun zc16 => ?_)
              · have zn := zc16
                refine V_iinc (nI (k + 1)) dX8_explains_94 4 rfl (nI_i1 k) rfl (L' := [(0, .ref (a 0)), (1, .int (-1)), (2, .int (-1)), (3, .int (nI zj)), (4, .int (nI (k + 1))), (5, .int (((((X 25) k) + 0) + 0) + (mNet (X 11) zj (nI k) (nl zj))))]) rfl ?_
                refine V_goto 3 dX8_explains_97 (by decide) ?_
                refine V_dropL (L' := [(0, .ref (a 0)), (1, .int (-1)), (2, .int (-1)), (3, .int (nI zj)), (4, .int (nI (k + 1)))]) (L'' := [(5, .int (((((X 25) k) + 0) + 0) + (mNet (X 11) zj (nI k) (nl zj))))]) rfl ?_
                refine ih (k + 1) (by omega) (by omega) (fun i hi => ?_)
                by_cases hik : i < k
                · exact hg i hik
                · obtain rfl : i = k := by omega
                  exact Or.inr zn
              · have zn := zc16
                refine V_iconst 0 dX8_explains_92 (by decide) ?_
                exact V_zret dX8_explains_93 rfl rfl (nb rfl) (nb rfl) ⟨by rw [mEx, decide_eq_false (fun hA => (hA k (by omega)).elim zt zn)]; rfl, rfl⟩
            · have zxz := zc15
              obtain rfl := sI_0 (by omega) zxz
              refine V_iconst 0 dX8_explains_73 (by decide) ?_
              refine V_goto 84 dX8_explains_74 (by decide) ?_
              refine V_iadd dX8_explains_84 ?_
              refine V_istore dX8_explains_85 rfl (L' := [(0, .ref (a 0)), (1, .int (-1)), (2, .int (-1)), (3, .int (-1)), (4, .int (nI k)), (5, .int (((((X 25) k) + 0) + 0) + 0))]) rfl ?_
              refine V_iload dX8_explains_87 5 rfl ?_
              refine V_if_eq 94 dX8_explains_89 (by decide) (fun zc17 => ?_) (fun zc17 => ?_)
              · have zn := zc17
                refine V_iinc (nI (k + 1)) dX8_explains_94 4 rfl (nI_i1 k) rfl (L' := [(0, .ref (a 0)), (1, .int (-1)), (2, .int (-1)), (3, .int (-1)), (4, .int (nI (k + 1))), (5, .int (((((X 25) k) + 0) + 0) + 0))]) rfl ?_
                refine V_goto 3 dX8_explains_97 (by decide) ?_
                refine V_dropL (L' := [(0, .ref (a 0)), (1, .int (-1)), (2, .int (-1)), (3, .int (-1)), (4, .int (nI (k + 1)))]) (L'' := [(5, .int (((((X 25) k) + 0) + 0) + 0))]) rfl ?_
                refine ih (k + 1) (by omega) (by omega) (fun i hi => ?_)
                by_cases hik : i < k
                · exact hg i hik
                · obtain rfl : i = k := by omega
                  exact Or.inr zn
              · have zn := zc17
                refine V_iconst 0 dX8_explains_92 (by decide) ?_
                exact V_zret dX8_explains_93 rfl rfl (nb rfl) (nb rfl) ⟨by rw [mEx, decide_eq_false (fun hA => (hA k (by omega)).elim zt zn)]; rfl, rfl⟩
      · have zt := zc2
        refine V_goto 94 dX8_explains_24 (by decide) ?_
        refine V_iinc (nI (k + 1)) dX8_explains_94 4 rfl (nI_i1 k) rfl (L' := [(0, .ref (a 0)), (1, .int (sI x)), (2, .int (sI y)), (3, .int (sI z)), (4, .int (nI (k + 1)))]) rfl ?_
        refine V_goto 3 dX8_explains_97 (by decide) ?_
        refine ih (k + 1) (by omega) (by omega) (fun i hi => ?_)
        by_cases hik : i < k
        · exact hg i hik
        · obtain rfl : i = k := by omega
          exact Or.inl zt

set_option maxRecDepth 100000 in
set_option maxHeartbeats 4000000 in
theorem e_M_explains (w : vWd) (a : Nat → Nat) (th : Int32) (Z : ZT) (sn gs ps : Nat) (X : Nat → Nat → Int32) (x y z : Nat) (na nj : Nat) (nl : Nat → Nat) (ac : Nat → Nat → Nat) (hN : okN (X 11) na nj nl ac) (hx : x ≤ nj) (hy : y ≤ nj) (hz : z ≤ nj) : Ct w mX8_explains 3 0 0 [.ref (a 0), .int (sI x), .int (sI y), .int (sI z)] (cG w a th Z sn gs ps X) (qE (some (.int (bi (mEx (X 11) (X 25) nl na x y z)))) (cG w a th Z sn gs ps X)) := by
  refine Ct.of (L := [(0, .ref (a 0)), (1, .int (sI x)), (2, .int (sI y)), (3, .int (sI z))]) (by decide) rfl rfl ?_
  refine V_iconst 0 dX8_explains_0 (by decide) ?_
  refine V_istore dX8_explains_1 rfl (L' := [(0, .ref (a 0)), (1, .int (sI x)), (2, .int (sI y)), (3, .int (sI z)), (4, .int 0)]) rfl ?_
  exact lp_M_explains w a th Z sn gs ps X x y z na nj nl ac hN hx hy hz (na + 1) 0 (by omega) (by omega) (fun i hi => absurd hi (by omega))

set_option maxRecDepth 100000 in
set_option maxHeartbeats 4000000 in
theorem lpz_M_tr0 (w : vWd) (a : Nat → Nat) (th : Int32) (Z : ZT) (sn gs ps : Nat) (X : Nat → Nat → Int32) (na nj : Nat) (nl : Nat → Nat) (ac : Nat → Nat → Nat) (hN : okN (X 11) na nj nl ac) (R : Int32) (x y : Nat) (hx : x ≤ nj) (hy : y ≤ nj) : ∀ (m : Nat) (z : Nat), ((1 - z) + 1 ≤ m) → (z ≤ 31) → (∀ v, fnd (fun z => tG (X 11) (X 25) nl na x y z) (1 - z) z = some v → R = v) → (fnd (fun z => tG (X 11) (X 25) nl na x y z) (1 - z) z = none → V w mX8_traced (vc w 6 0 0 (qE (some (.int R)) (cG w a th Z sn gs ps X))) 0 0 183 [(0, .ref (a 0)), (1, .int 0), (2, .int (sI x)), (3, .int (sI y))] [] (cG w a th Z sn gs ps X)) → V w mX8_traced (vc w 6 0 0 (qE (some (.int R)) (cG w a th Z sn gs ps X))) 0 0 110 [(0, .ref (a 0)), (1, .int 0), (2, .int (sI x)), (3, .int (sI y)), (4, .int (sI z))] [] (cG w a th Z sn gs ps X) := by
  intro m
  induction m with
  | zero =>
    intro z h1 hb hR hnx
    exact absurd h1 (by omega)
  | succ m ih =>
    intro z h1 hb hR hnx
    obtain ⟨hn0, hn1, hna, hnj, hnl, hac⟩ := id hN
    refine V_iload dX8_traced_110 4 rfl ?_
    refine V_iload_n dX8_traced_112 1 rfl ?_
    refine V_iconst 2 dX8_traced_113 (by decide) ?_
    refine V_icmp_le_t 121 dX8_traced_114 (by decide) (by decide) ?_
    refine V_iconst 0 dX8_traced_121 (by decide) ?_
    refine V_icmp_ge 183 dX8_traced_122 (by decide) (fun zc2 => ?_) (fun zc2 => ?_)
    · have hge : 1 ≤ z := (sI_le (s := 1) (t := z) (by omega) (by omega)).1 zc2
      refine V_dropL (L' := [(0, .ref (a 0)), (1, .int 0), (2, .int (sI x)), (3, .int (sI y))]) (L'' := [(4, .int (sI z))]) rfl ?_
      exact hnx (by rw [show (1 - z) = 0 by omega]; rfl)
    · have hlt : ¬ 1 ≤ z := fun e => zc2 ((sI_le (s := 1) (t := z) (by omega) (by omega)).2 e)
      rw [show (1 - z) = (1 - (z + 1)) + 1 by omega] at hR hnx
      refine V_aload_n dX8_traced_125 0 rfl ?_
      refine V_iload_n dX8_traced_126 2 rfl ?_
      refine V_selfR dX8_traced_127 lX8_240 (e_M_isCounted w a th Z sn gs ps X x (by omega)) rfl rfl 0 rfl rfl rfl rfl ?_
      refine V_ifeq_b 177 dX8_traced_130 (by decide) (fun zc3 => ?_) (fun zc3 => ?_)
      · have hf : tG (X 11) (X 25) nl na x y z = none := by clear ih hN hR hnx hnl hac; grind [tG]
        refine V_iinc (sI (z + 1)) dX8_traced_177 4 rfl (sI_i1 (by omega)) rfl (L' := [(0, .ref (a 0)), (1, .int 0), (2, .int (sI x)), (3, .int (sI y)), (4, .int (sI (z + 1)))]) rfl ?_
        refine V_goto 110 dX8_traced_180 (by decide) ?_
        exact ih (z + 1) (by omega) (by omega) (fun v e => hR v (by rw [fnd_n (f := (fun z => tG (X 11) (X 25) nl na x y z)) hf]; exact e)) (fun e => hnx (by rw [fnd_n (f := (fun z => tG (X 11) (X 25) nl na x y z)) hf]; exact e))
      · refine V_aload_n dX8_traced_133 0 rfl ?_
        refine V_iload_n dX8_traced_134 3 rfl ?_
        refine V_selfR dX8_traced_135 lX8_240 (e_M_isCounted w a th Z sn gs ps X y (by omega)) rfl rfl 0 rfl rfl rfl rfl ?_
        refine V_ifeq_b 177 dX8_traced_138 (by decide) (fun zc4 => ?_) (fun zc4 => ?_)
        · have hf : tG (X 11) (X 25) nl na x y z = none := by clear ih hN hR hnx hnl hac; grind [tG]
          refine V_iinc (sI (z + 1)) dX8_traced_177 4 rfl (sI_i1 (by omega)) rfl (L' := [(0, .ref (a 0)), (1, .int 0), (2, .int (sI x)), (3, .int (sI y)), (4, .int (sI (z + 1)))]) rfl ?_
          refine V_goto 110 dX8_traced_180 (by decide) ?_
          exact ih (z + 1) (by omega) (by omega) (fun v e => hR v (by rw [fnd_n (f := (fun z => tG (X 11) (X 25) nl na x y z)) hf]; exact e)) (fun e => hnx (by rw [fnd_n (f := (fun z => tG (X 11) (X 25) nl na x y z)) hf]; exact e))
        · refine V_aload_n dX8_traced_141 0 rfl ?_
          refine V_iload dX8_traced_142 4 rfl ?_
          refine V_selfR dX8_traced_144 lX8_240 (e_M_isCounted w a th Z sn gs ps X z (by omega)) rfl rfl 0 rfl rfl rfl rfl ?_
          refine V_ifeq_b 177 dX8_traced_147 (by decide) (fun zc5 => ?_) (fun zc5 => ?_)
          · have hf : tG (X 11) (X 25) nl na x y z = none := by clear ih hN hR hnx hnl hac; grind [tG]
            refine V_iinc (sI (z + 1)) dX8_traced_177 4 rfl (sI_i1 (by omega)) rfl (L' := [(0, .ref (a 0)), (1, .int 0), (2, .int (sI x)), (3, .int (sI y)), (4, .int (sI (z + 1)))]) rfl ?_
            refine V_goto 110 dX8_traced_180 (by decide) ?_
            exact ih (z + 1) (by omega) (by omega) (fun v e => hR v (by rw [fnd_n (f := (fun z => tG (X 11) (X 25) nl na x y z)) hf]; exact e)) (fun e => hnx (by rw [fnd_n (f := (fun z => tG (X 11) (X 25) nl na x y z)) hf]; exact e))
          · refine V_aload_n dX8_traced_150 0 rfl ?_
            refine V_iload_n dX8_traced_151 2 rfl ?_
            refine V_iload_n dX8_traced_152 3 rfl ?_
            refine V_iload dX8_traced_153 4 rfl ?_
            refine V_selfR dX8_traced_155 lX8_243 (e_M_explains w a th Z sn gs ps X x y z na nj nl ac hN (by omega) (by omega) (by omega)) rfl rfl 0 rfl rfl rfl rfl ?_
            refine V_ifeq_b 177 dX8_traced_158 (by decide) (fun zc6 => ?_) (fun zc6 => ?_)
            · have hf : tG (X 11) (X 25) nl na x y z = none := by clear ih hN hR hnx hnl hac; grind [tG]
              refine V_iinc (sI (z + 1)) dX8_traced_177 4 rfl (sI_i1 (by omega)) rfl (L' := [(0, .ref (a 0)), (1, .int 0), (2, .int (sI x)), (3, .int (sI y)), (4, .int (sI (z + 1)))]) rfl ?_
              refine V_goto 110 dX8_traced_180 (by decide) ?_
              exact ih (z + 1) (by omega) (by omega) (fun v e => hR v (by rw [fnd_n (f := (fun z => tG (X 11) (X 25) nl na x y z)) hf]; exact e)) (fun e => hnx (by rw [fnd_n (f := (fun z => tG (X 11) (X 25) nl na x y z)) hf]; exact e))
            · refine V_iload_n dX8_traced_161 2 rfl ?_
              refine V_purS dX8_traced_162 lX8_246 (c_M_bit w x (by omega)) rfl rfl rfl ?_
              refine V_iload_n dX8_traced_165 3 rfl ?_
              refine V_purS dX8_traced_166 lX8_246 (c_M_bit w y (by omega)) rfl rfl rfl ?_
              refine V_ior dX8_traced_169 ?_
              refine V_iload dX8_traced_170 4 rfl ?_
              refine V_purS dX8_traced_172 lX8_246 (c_M_bit w z (by omega)) rfl rfl rfl ?_
              refine V_ior dX8_traced_175 ?_
              refine V_iret dX8_traced_176 rfl (nb rfl) (nb rfl) ?_
              have hs : tG (X 11) (X 25) nl na x y z = some (((bitS x) ||| (bitS y)) ||| (bitS z)) := by clear ih hN hR hnx hnl hac; grind [tG]
              exact ⟨by rw [hR _ (fnd_s (f := (fun z => tG (X 11) (X 25) nl na x y z)) hs)], rfl⟩

set_option maxRecDepth 100000 in
set_option maxHeartbeats 4000000 in
theorem lpy_M_tr0 (w : vWd) (a : Nat → Nat) (th : Int32) (Z : ZT) (sn gs ps : Nat) (X : Nat → Nat → Int32) (na nj : Nat) (nl : Nat → Nat) (ac : Nat → Nat → Nat) (hN : okN (X 11) na nj nl ac) (R : Int32) (x : Nat) (hx : x ≤ nj) : ∀ (m : Nat) (y : Nat), ((1 - y) + 1 ≤ m) → (y ≤ 31) → (∀ v, fnd (fun y => fnd (fun z => tG (X 11) (X 25) nl na x y z) (1 - 0) 0) (1 - y) y = some v → R = v) → (fnd (fun y => fnd (fun z => tG (X 11) (X 25) nl na x y z) (1 - 0) 0) (1 - y) y = none → V w mX8_traced (vc w 6 0 0 (qE (some (.int R)) (cG w a th Z sn gs ps X))) 0 0 189 [(0, .ref (a 0)), (1, .int 0), (2, .int (sI x))] [] (cG w a th Z sn gs ps X)) → V w mX8_traced (vc w 6 0 0 (qE (some (.int R)) (cG w a th Z sn gs ps X))) 0 0 84 [(0, .ref (a 0)), (1, .int 0), (2, .int (sI x)), (3, .int (sI y))] [] (cG w a th Z sn gs ps X) := by
  intro m
  induction m with
  | zero =>
    intro y h1 hb hR hnx
    exact absurd h1 (by omega)
  | succ m ih =>
    intro y h1 hb hR hnx
    obtain ⟨hn0, hn1, hna, hnj, hnl, hac⟩ := id hN
    refine V_iload_n dX8_traced_84 3 rfl ?_
    refine V_iload_n dX8_traced_85 1 rfl ?_
    refine V_iconst 1 dX8_traced_86 (by decide) ?_
    refine V_icmp_le_t 94 dX8_traced_87 (by decide) (by decide) ?_
    refine V_iconst 0 dX8_traced_94 (by decide) ?_
    refine V_icmp_ge 189 dX8_traced_95 (by decide) (fun zc2 => ?_) (fun zc2 => ?_)
    · have hge : 1 ≤ y := (sI_le (s := 1) (t := y) (by omega) (by omega)).1 zc2
      refine V_dropL (L' := [(0, .ref (a 0)), (1, .int 0), (2, .int (sI x))]) (L'' := [(3, .int (sI y))]) rfl ?_
      exact hnx (by rw [show (1 - y) = 0 by omega]; rfl)
    · have hlt : ¬ 1 ≤ y := fun e => zc2 ((sI_le (s := 1) (t := y) (by omega) (by omega)).2 e)
      rw [show (1 - y) = (1 - (y + 1)) + 1 by omega] at hR hnx
      refine V_iload_n dX8_traced_98 1 rfl ?_
      refine V_iconst 2 dX8_traced_99 (by decide) ?_
      refine V_icmp_le_t 107 dX8_traced_100 (by decide) (by decide) ?_
      refine V_iconst (-1) dX8_traced_107 (by decide) ?_
      refine V_istore dX8_traced_108 rfl (L' := [(0, .ref (a 0)), (1, .int 0), (2, .int (sI x)), (3, .int (sI y)), (4, .int (-1))]) rfl ?_
      refine lpz_M_tr0 w a th Z sn gs ps X na nj nl ac hN R x y hx (by omega) (1 - 0 + 1) 0 (by omega) (by omega) (fun v e => hR v (fnd_s (f := (fun y => fnd (fun z => tG (X 11) (X 25) nl na x y z) (1 - 0) 0)) e)) (fun hf => ?_)
      refine V_iinc (sI (y + 1)) dX8_traced_183 3 rfl (sI_i1 (by omega)) rfl (L' := [(0, .ref (a 0)), (1, .int 0), (2, .int (sI x)), (3, .int (sI (y + 1)))]) rfl ?_
      refine V_goto 84 dX8_traced_186 (by decide) ?_
      exact ih (y + 1) (by omega) (by omega) (fun v e => hR v (by rw [fnd_n (f := (fun y => fnd (fun z => tG (X 11) (X 25) nl na x y z) (1 - 0) 0)) hf]; exact e)) (fun e => hnx (by rw [fnd_n (f := (fun y => fnd (fun z => tG (X 11) (X 25) nl na x y z) (1 - 0) 0)) hf]; exact e))

set_option maxRecDepth 100000 in
set_option maxHeartbeats 4000000 in
theorem lpx_M_tr0 (w : vWd) (a : Nat → Nat) (th : Int32) (Z : ZT) (sn gs ps : Nat) (X : Nat → Nat → Int32) (na nj : Nat) (nl : Nat → Nat) (ac : Nat → Nat → Nat) (hN : okN (X 11) na nj nl ac) (R : Int32) : ∀ (m : Nat) (x : Nat), ((1 - x) + 1 ≤ m) → (x ≤ 31) → (∀ v, fnd (fun x => fnd (fun y => fnd (fun z => tG (X 11) (X 25) nl na x y z) (1 - 0) 0) (1 - 0) 0) (1 - x) x = some v → R = v) → (fnd (fun x => fnd (fun y => fnd (fun z => tG (X 11) (X 25) nl na x y z) (1 - 0) 0) (1 - 0) 0) (1 - x) x = none → V w mX8_traced (vc w 6 0 0 (qE (some (.int R)) (cG w a th Z sn gs ps X))) 0 0 195 [(0, .ref (a 0)), (1, .int 0)] [] (cG w a th Z sn gs ps X)) → V w mX8_traced (vc w 6 0 0 (qE (some (.int R)) (cG w a th Z sn gs ps X))) 0 0 53 [(0, .ref (a 0)), (1, .int 0), (2, .int (sI x))] [] (cG w a th Z sn gs ps X) := by
  intro m
  induction m with
  | zero =>
    intro x h1 hb hR hnx
    exact absurd h1 (by omega)
  | succ m ih =>
    intro x h1 hb hR hnx
    obtain ⟨hn0, hn1, hna, hnj, hnl, hac⟩ := id hN
    refine V_iload_n dX8_traced_53 2 rfl ?_
    refine V_iload_n dX8_traced_54 1 rfl ?_
    refine V_if_le_t 67 dX8_traced_55 (by decide) (by decide) ?_
    refine V_iconst 0 dX8_traced_67 (by decide) ?_
    refine V_icmp_ge 195 dX8_traced_68 (by decide) (fun zc2 => ?_) (fun zc2 => ?_)
    · have hge : 1 ≤ x := (sI_le (s := 1) (t := x) (by omega) (by omega)).1 zc2
      refine V_dropL (L' := [(0, .ref (a 0)), (1, .int 0)]) (L'' := [(2, .int (sI x))]) rfl ?_
      exact hnx (by rw [show (1 - x) = 0 by omega]; rfl)
    · have hlt : ¬ 1 ≤ x := fun e => zc2 ((sI_le (s := 1) (t := x) (by omega) (by omega)).2 e)
      rw [show (1 - x) = (1 - (x + 1)) + 1 by omega] at hR hnx
      refine V_iload_n dX8_traced_71 1 rfl ?_
      refine V_iconst 1 dX8_traced_72 (by decide) ?_
      refine V_icmp_le_t 82 dX8_traced_73 (by decide) (by decide) ?_
      refine V_iconst (-1) dX8_traced_82 (by decide) ?_
      refine V_istore_n dX8_traced_83 rfl (L' := [(0, .ref (a 0)), (1, .int 0), (2, .int (sI x)), (3, .int (-1))]) rfl ?_
      refine lpy_M_tr0 w a th Z sn gs ps X na nj nl ac hN R x (by omega) (1 - 0 + 1) 0 (by omega) (by omega) (fun v e => hR v (fnd_s (f := (fun x => fnd (fun y => fnd (fun z => tG (X 11) (X 25) nl na x y z) (1 - 0) 0) (1 - 0) 0)) e)) (fun hf => ?_)
      refine V_iinc (sI (x + 1)) dX8_traced_189 2 rfl (sI_i1 (by omega)) rfl (L' := [(0, .ref (a 0)), (1, .int 0), (2, .int (sI (x + 1)))]) rfl ?_
      refine V_goto 53 dX8_traced_192 (by decide) ?_
      exact ih (x + 1) (by omega) (by omega) (fun v e => hR v (by rw [fnd_n (f := (fun x => fnd (fun y => fnd (fun z => tG (X 11) (X 25) nl na x y z) (1 - 0) 0) (1 - 0) 0)) hf]; exact e)) (fun e => hnx (by rw [fnd_n (f := (fun x => fnd (fun y => fnd (fun z => tG (X 11) (X 25) nl na x y z) (1 - 0) 0) (1 - 0) 0)) hf]; exact e))

set_option maxRecDepth 100000 in
set_option maxHeartbeats 4000000 in
theorem trm_M_0 (w : vWd) (a : Nat → Nat) (th : Int32) (Z : ZT) (sn gs ps : Nat) (X : Nat → Nat → Int32) (na nj : Nat) (nl : Nat → Nat) (ac : Nat → Nat → Nat) (hN : okN (X 11) na nj nl ac) (R : Int32) (hR : ∀ v, fnd (fun x => fnd (fun y => fnd (fun z => tG (X 11) (X 25) nl na x y z) (1 - 0) 0) (1 - 0) 0) (1 - 0) 0 = some v → R = v) (hnx : fnd (fun x => fnd (fun y => fnd (fun z => tG (X 11) (X 25) nl na x y z) (1 - 0) 0) (1 - 0) 0) (1 - 0) 0 = none → V w mX8_traced (vc w 6 0 0 (qE (some (.int R)) (cG w a th Z sn gs ps X))) 0 0 36 [(0, .ref (a 0)), (1, .int 1)] [] (cG w a th Z sn gs ps X)) : V w mX8_traced (vc w 6 0 0 (qE (some (.int R)) (cG w a th Z sn gs ps X))) 0 0 36 [(0, .ref (a 0)), (1, .int 0)] [] (cG w a th Z sn gs ps X) := by
  obtain ⟨hn0, hn1, hna, hnj, hnl, hac⟩ := id hN
  refine V_iload_n dX8_traced_36 1 rfl ?_
  refine V_iconst 4 dX8_traced_37 (by decide) ?_
  refine V_icmp_ge_f 201 dX8_traced_38 (by decide) (by decide) ?_
  refine V_iload_n dX8_traced_41 1 rfl ?_
  refine V_if_le_t 51 dX8_traced_42 (by decide) (by decide) ?_
  refine V_iconst (-1) dX8_traced_51 (by decide) ?_
  refine V_istore_n dX8_traced_52 rfl (L' := [(0, .ref (a 0)), (1, .int 0), (2, .int (-1))]) rfl ?_
  refine lpx_M_tr0 w a th Z sn gs ps X na nj nl ac hN R (1 - 0 + 1) 0 (by omega) (by omega) hR (fun hf => ?_)
  refine V_iinc 1 dX8_traced_195 1 rfl (by decide) rfl (L' := [(0, .ref (a 0)), (1, .int 1)]) rfl ?_
  refine V_goto 36 dX8_traced_198 (by decide) ?_
  exact hnx hf

set_option maxRecDepth 100000 in
set_option maxHeartbeats 4000000 in
theorem lpz_M_tr1 (w : vWd) (a : Nat → Nat) (th : Int32) (Z : ZT) (sn gs ps : Nat) (X : Nat → Nat → Int32) (na nj : Nat) (nl : Nat → Nat) (ac : Nat → Nat → Nat) (hN : okN (X 11) na nj nl ac) (R : Int32) (x y : Nat) (hx : x ≤ nj) (hy : y ≤ nj) : ∀ (m : Nat) (z : Nat), ((1 - z) + 1 ≤ m) → (z ≤ 31) → (∀ v, fnd (fun z => tG (X 11) (X 25) nl na x y z) (1 - z) z = some v → R = v) → (fnd (fun z => tG (X 11) (X 25) nl na x y z) (1 - z) z = none → V w mX8_traced (vc w 6 0 0 (qE (some (.int R)) (cG w a th Z sn gs ps X))) 0 0 183 [(0, .ref (a 0)), (1, .int 1), (2, .int (sI x)), (3, .int (sI y))] [] (cG w a th Z sn gs ps X)) → V w mX8_traced (vc w 6 0 0 (qE (some (.int R)) (cG w a th Z sn gs ps X))) 0 0 110 [(0, .ref (a 0)), (1, .int 1), (2, .int (sI x)), (3, .int (sI y)), (4, .int (sI z))] [] (cG w a th Z sn gs ps X) := by
  intro m
  induction m with
  | zero =>
    intro z h1 hb hR hnx
    exact absurd h1 (by omega)
  | succ m ih =>
    intro z h1 hb hR hnx
    obtain ⟨hn0, hn1, hna, hnj, hnl, hac⟩ := id hN
    refine V_iload dX8_traced_110 4 rfl ?_
    refine V_iload_n dX8_traced_112 1 rfl ?_
    refine V_iconst 2 dX8_traced_113 (by decide) ?_
    refine V_icmp_le_t 121 dX8_traced_114 (by decide) (by decide) ?_
    refine V_iconst 0 dX8_traced_121 (by decide) ?_
    refine V_icmp_ge 183 dX8_traced_122 (by decide) (fun zc2 => ?_) (fun zc2 => ?_)
    · have hge : 1 ≤ z := (sI_le (s := 1) (t := z) (by omega) (by omega)).1 zc2
      refine V_dropL (L' := [(0, .ref (a 0)), (1, .int 1), (2, .int (sI x)), (3, .int (sI y))]) (L'' := [(4, .int (sI z))]) rfl ?_
      exact hnx (by rw [show (1 - z) = 0 by omega]; rfl)
    · have hlt : ¬ 1 ≤ z := fun e => zc2 ((sI_le (s := 1) (t := z) (by omega) (by omega)).2 e)
      rw [show (1 - z) = (1 - (z + 1)) + 1 by omega] at hR hnx
      refine V_aload_n dX8_traced_125 0 rfl ?_
      refine V_iload_n dX8_traced_126 2 rfl ?_
      refine V_selfR dX8_traced_127 lX8_240 (e_M_isCounted w a th Z sn gs ps X x (by omega)) rfl rfl 0 rfl rfl rfl rfl ?_
      refine V_ifeq_b 177 dX8_traced_130 (by decide) (fun zc3 => ?_) (fun zc3 => ?_)
      · have hf : tG (X 11) (X 25) nl na x y z = none := by clear ih hN hR hnx hnl hac; grind [tG]
        refine V_iinc (sI (z + 1)) dX8_traced_177 4 rfl (sI_i1 (by omega)) rfl (L' := [(0, .ref (a 0)), (1, .int 1), (2, .int (sI x)), (3, .int (sI y)), (4, .int (sI (z + 1)))]) rfl ?_
        refine V_goto 110 dX8_traced_180 (by decide) ?_
        exact ih (z + 1) (by omega) (by omega) (fun v e => hR v (by rw [fnd_n (f := (fun z => tG (X 11) (X 25) nl na x y z)) hf]; exact e)) (fun e => hnx (by rw [fnd_n (f := (fun z => tG (X 11) (X 25) nl na x y z)) hf]; exact e))
      · refine V_aload_n dX8_traced_133 0 rfl ?_
        refine V_iload_n dX8_traced_134 3 rfl ?_
        refine V_selfR dX8_traced_135 lX8_240 (e_M_isCounted w a th Z sn gs ps X y (by omega)) rfl rfl 0 rfl rfl rfl rfl ?_
        refine V_ifeq_b 177 dX8_traced_138 (by decide) (fun zc4 => ?_) (fun zc4 => ?_)
        · have hf : tG (X 11) (X 25) nl na x y z = none := by clear ih hN hR hnx hnl hac; grind [tG]
          refine V_iinc (sI (z + 1)) dX8_traced_177 4 rfl (sI_i1 (by omega)) rfl (L' := [(0, .ref (a 0)), (1, .int 1), (2, .int (sI x)), (3, .int (sI y)), (4, .int (sI (z + 1)))]) rfl ?_
          refine V_goto 110 dX8_traced_180 (by decide) ?_
          exact ih (z + 1) (by omega) (by omega) (fun v e => hR v (by rw [fnd_n (f := (fun z => tG (X 11) (X 25) nl na x y z)) hf]; exact e)) (fun e => hnx (by rw [fnd_n (f := (fun z => tG (X 11) (X 25) nl na x y z)) hf]; exact e))
        · refine V_aload_n dX8_traced_141 0 rfl ?_
          refine V_iload dX8_traced_142 4 rfl ?_
          refine V_selfR dX8_traced_144 lX8_240 (e_M_isCounted w a th Z sn gs ps X z (by omega)) rfl rfl 0 rfl rfl rfl rfl ?_
          refine V_ifeq_b 177 dX8_traced_147 (by decide) (fun zc5 => ?_) (fun zc5 => ?_)
          · have hf : tG (X 11) (X 25) nl na x y z = none := by clear ih hN hR hnx hnl hac; grind [tG]
            refine V_iinc (sI (z + 1)) dX8_traced_177 4 rfl (sI_i1 (by omega)) rfl (L' := [(0, .ref (a 0)), (1, .int 1), (2, .int (sI x)), (3, .int (sI y)), (4, .int (sI (z + 1)))]) rfl ?_
            refine V_goto 110 dX8_traced_180 (by decide) ?_
            exact ih (z + 1) (by omega) (by omega) (fun v e => hR v (by rw [fnd_n (f := (fun z => tG (X 11) (X 25) nl na x y z)) hf]; exact e)) (fun e => hnx (by rw [fnd_n (f := (fun z => tG (X 11) (X 25) nl na x y z)) hf]; exact e))
          · refine V_aload_n dX8_traced_150 0 rfl ?_
            refine V_iload_n dX8_traced_151 2 rfl ?_
            refine V_iload_n dX8_traced_152 3 rfl ?_
            refine V_iload dX8_traced_153 4 rfl ?_
            refine V_selfR dX8_traced_155 lX8_243 (e_M_explains w a th Z sn gs ps X x y z na nj nl ac hN (by omega) (by omega) (by omega)) rfl rfl 0 rfl rfl rfl rfl ?_
            refine V_ifeq_b 177 dX8_traced_158 (by decide) (fun zc6 => ?_) (fun zc6 => ?_)
            · have hf : tG (X 11) (X 25) nl na x y z = none := by clear ih hN hR hnx hnl hac; grind [tG]
              refine V_iinc (sI (z + 1)) dX8_traced_177 4 rfl (sI_i1 (by omega)) rfl (L' := [(0, .ref (a 0)), (1, .int 1), (2, .int (sI x)), (3, .int (sI y)), (4, .int (sI (z + 1)))]) rfl ?_
              refine V_goto 110 dX8_traced_180 (by decide) ?_
              exact ih (z + 1) (by omega) (by omega) (fun v e => hR v (by rw [fnd_n (f := (fun z => tG (X 11) (X 25) nl na x y z)) hf]; exact e)) (fun e => hnx (by rw [fnd_n (f := (fun z => tG (X 11) (X 25) nl na x y z)) hf]; exact e))
            · refine V_iload_n dX8_traced_161 2 rfl ?_
              refine V_purS dX8_traced_162 lX8_246 (c_M_bit w x (by omega)) rfl rfl rfl ?_
              refine V_iload_n dX8_traced_165 3 rfl ?_
              refine V_purS dX8_traced_166 lX8_246 (c_M_bit w y (by omega)) rfl rfl rfl ?_
              refine V_ior dX8_traced_169 ?_
              refine V_iload dX8_traced_170 4 rfl ?_
              refine V_purS dX8_traced_172 lX8_246 (c_M_bit w z (by omega)) rfl rfl rfl ?_
              refine V_ior dX8_traced_175 ?_
              refine V_iret dX8_traced_176 rfl (nb rfl) (nb rfl) ?_
              have hs : tG (X 11) (X 25) nl na x y z = some (((bitS x) ||| (bitS y)) ||| (bitS z)) := by clear ih hN hR hnx hnl hac; grind [tG]
              exact ⟨by rw [hR _ (fnd_s (f := (fun z => tG (X 11) (X 25) nl na x y z)) hs)], rfl⟩

set_option maxRecDepth 100000 in
set_option maxHeartbeats 4000000 in
theorem lpy_M_tr1 (w : vWd) (a : Nat → Nat) (th : Int32) (Z : ZT) (sn gs ps : Nat) (X : Nat → Nat → Int32) (na nj : Nat) (nl : Nat → Nat) (ac : Nat → Nat → Nat) (hN : okN (X 11) na nj nl ac) (R : Int32) (x : Nat) (hx : x ≤ nj) : ∀ (m : Nat) (y : Nat), ((1 - y) + 1 ≤ m) → (y ≤ 31) → (∀ v, fnd (fun y => fnd (fun z => tG (X 11) (X 25) nl na x y z) (1 - 0) 0) (1 - y) y = some v → R = v) → (fnd (fun y => fnd (fun z => tG (X 11) (X 25) nl na x y z) (1 - 0) 0) (1 - y) y = none → V w mX8_traced (vc w 6 0 0 (qE (some (.int R)) (cG w a th Z sn gs ps X))) 0 0 189 [(0, .ref (a 0)), (1, .int 1), (2, .int (sI x))] [] (cG w a th Z sn gs ps X)) → V w mX8_traced (vc w 6 0 0 (qE (some (.int R)) (cG w a th Z sn gs ps X))) 0 0 84 [(0, .ref (a 0)), (1, .int 1), (2, .int (sI x)), (3, .int (sI y))] [] (cG w a th Z sn gs ps X) := by
  intro m
  induction m with
  | zero =>
    intro y h1 hb hR hnx
    exact absurd h1 (by omega)
  | succ m ih =>
    intro y h1 hb hR hnx
    obtain ⟨hn0, hn1, hna, hnj, hnl, hac⟩ := id hN
    refine V_iload_n dX8_traced_84 3 rfl ?_
    refine V_iload_n dX8_traced_85 1 rfl ?_
    refine V_iconst 1 dX8_traced_86 (by decide) ?_
    refine V_icmp_le_t 94 dX8_traced_87 (by decide) (by decide) ?_
    refine V_iconst 0 dX8_traced_94 (by decide) ?_
    refine V_icmp_ge 189 dX8_traced_95 (by decide) (fun zc2 => ?_) (fun zc2 => ?_)
    · have hge : 1 ≤ y := (sI_le (s := 1) (t := y) (by omega) (by omega)).1 zc2
      refine V_dropL (L' := [(0, .ref (a 0)), (1, .int 1), (2, .int (sI x))]) (L'' := [(3, .int (sI y))]) rfl ?_
      exact hnx (by rw [show (1 - y) = 0 by omega]; rfl)
    · have hlt : ¬ 1 ≤ y := fun e => zc2 ((sI_le (s := 1) (t := y) (by omega) (by omega)).2 e)
      rw [show (1 - y) = (1 - (y + 1)) + 1 by omega] at hR hnx
      refine V_iload_n dX8_traced_98 1 rfl ?_
      refine V_iconst 2 dX8_traced_99 (by decide) ?_
      refine V_icmp_le_t 107 dX8_traced_100 (by decide) (by decide) ?_
      refine V_iconst (-1) dX8_traced_107 (by decide) ?_
      refine V_istore dX8_traced_108 rfl (L' := [(0, .ref (a 0)), (1, .int 1), (2, .int (sI x)), (3, .int (sI y)), (4, .int (-1))]) rfl ?_
      refine lpz_M_tr1 w a th Z sn gs ps X na nj nl ac hN R x y hx (by omega) (1 - 0 + 1) 0 (by omega) (by omega) (fun v e => hR v (fnd_s (f := (fun y => fnd (fun z => tG (X 11) (X 25) nl na x y z) (1 - 0) 0)) e)) (fun hf => ?_)
      refine V_iinc (sI (y + 1)) dX8_traced_183 3 rfl (sI_i1 (by omega)) rfl (L' := [(0, .ref (a 0)), (1, .int 1), (2, .int (sI x)), (3, .int (sI (y + 1)))]) rfl ?_
      refine V_goto 84 dX8_traced_186 (by decide) ?_
      exact ih (y + 1) (by omega) (by omega) (fun v e => hR v (by rw [fnd_n (f := (fun y => fnd (fun z => tG (X 11) (X 25) nl na x y z) (1 - 0) 0)) hf]; exact e)) (fun e => hnx (by rw [fnd_n (f := (fun y => fnd (fun z => tG (X 11) (X 25) nl na x y z) (1 - 0) 0)) hf]; exact e))

set_option maxRecDepth 100000 in
set_option maxHeartbeats 4000000 in
theorem lpx_M_tr1 (w : vWd) (a : Nat → Nat) (th : Int32) (Z : ZT) (sn gs ps : Nat) (X : Nat → Nat → Int32) (na nj : Nat) (nl : Nat → Nat) (ac : Nat → Nat → Nat) (hN : okN (X 11) na nj nl ac) (R : Int32) : ∀ (m : Nat) (x : Nat), (((nj + 1) - x) + 1 ≤ m) → (x ≤ 31) → (∀ v, fnd (fun x => fnd (fun y => fnd (fun z => tG (X 11) (X 25) nl na x y z) (1 - 0) 0) (1 - 0) 0) ((nj + 1) - x) x = some v → R = v) → (fnd (fun x => fnd (fun y => fnd (fun z => tG (X 11) (X 25) nl na x y z) (1 - 0) 0) (1 - 0) 0) ((nj + 1) - x) x = none → V w mX8_traced (vc w 6 0 0 (qE (some (.int R)) (cG w a th Z sn gs ps X))) 0 0 195 [(0, .ref (a 0)), (1, .int 1)] [] (cG w a th Z sn gs ps X)) → V w mX8_traced (vc w 6 0 0 (qE (some (.int R)) (cG w a th Z sn gs ps X))) 0 0 53 [(0, .ref (a 0)), (1, .int 1), (2, .int (sI x))] [] (cG w a th Z sn gs ps X) := by
  intro m
  induction m with
  | zero =>
    intro x h1 hb hR hnx
    exact absurd h1 (by omega)
  | succ m ih =>
    intro x h1 hb hR hnx
    obtain ⟨hn0, hn1, hna, hnj, hnl, hac⟩ := id hN
    refine V_iload_n dX8_traced_53 2 rfl ?_
    refine V_iload_n dX8_traced_54 1 rfl ?_
    refine V_if_le_f 67 dX8_traced_55 (by decide) (by decide) ?_
    refine V_aload_n dX8_traced_58 0 rfl ?_
    refine V_get dX8_traced_59 fX8_76 0 rfl rfl ?_
    refine V_iconst 1 dX8_traced_62 (by decide) ?_
    refine V_iald dX8_traced_63 2 rfl rfl 1 rfl (by omega) ?_
    refine V_casti (y := nI nj) hn1 ?_
    refine V_goto 68 dX8_traced_64 (by decide) ?_
    refine V_icmp_ge 195 dX8_traced_68 (by decide) (fun zc2 => ?_) (fun zc2 => ?_)
    · have hge : (nj + 1) ≤ x := (sI_le (s := (nj + 1)) (t := x) (by omega) (by omega)).1 zc2
      refine V_dropL (L' := [(0, .ref (a 0)), (1, .int 1)]) (L'' := [(2, .int (sI x))]) rfl ?_
      exact hnx (by rw [show ((nj + 1) - x) = 0 by omega]; rfl)
    · have hlt : ¬ (nj + 1) ≤ x := fun e => zc2 ((sI_le (s := (nj + 1)) (t := x) (by omega) (by omega)).2 e)
      rw [show ((nj + 1) - x) = ((nj + 1) - (x + 1)) + 1 by omega] at hR hnx
      refine V_iload_n dX8_traced_71 1 rfl ?_
      refine V_iconst 1 dX8_traced_72 (by decide) ?_
      refine V_icmp_le_t 82 dX8_traced_73 (by decide) (by decide) ?_
      refine V_iconst (-1) dX8_traced_82 (by decide) ?_
      refine V_istore_n dX8_traced_83 rfl (L' := [(0, .ref (a 0)), (1, .int 1), (2, .int (sI x)), (3, .int (-1))]) rfl ?_
      refine lpy_M_tr1 w a th Z sn gs ps X na nj nl ac hN R x (by omega) (1 - 0 + 1) 0 (by omega) (by omega) (fun v e => hR v (fnd_s (f := (fun x => fnd (fun y => fnd (fun z => tG (X 11) (X 25) nl na x y z) (1 - 0) 0) (1 - 0) 0)) e)) (fun hf => ?_)
      refine V_iinc (sI (x + 1)) dX8_traced_189 2 rfl (sI_i1 (by omega)) rfl (L' := [(0, .ref (a 0)), (1, .int 1), (2, .int (sI (x + 1)))]) rfl ?_
      refine V_goto 53 dX8_traced_192 (by decide) ?_
      exact ih (x + 1) (by omega) (by omega) (fun v e => hR v (by rw [fnd_n (f := (fun x => fnd (fun y => fnd (fun z => tG (X 11) (X 25) nl na x y z) (1 - 0) 0) (1 - 0) 0)) hf]; exact e)) (fun e => hnx (by rw [fnd_n (f := (fun x => fnd (fun y => fnd (fun z => tG (X 11) (X 25) nl na x y z) (1 - 0) 0) (1 - 0) 0)) hf]; exact e))

set_option maxRecDepth 100000 in
set_option maxHeartbeats 4000000 in
theorem trm_M_1 (w : vWd) (a : Nat → Nat) (th : Int32) (Z : ZT) (sn gs ps : Nat) (X : Nat → Nat → Int32) (na nj : Nat) (nl : Nat → Nat) (ac : Nat → Nat → Nat) (hN : okN (X 11) na nj nl ac) (R : Int32) (hR : ∀ v, fnd (fun x => fnd (fun y => fnd (fun z => tG (X 11) (X 25) nl na x y z) (1 - 0) 0) (1 - 0) 0) (nj + 1 - 1) 1 = some v → R = v) (hnx : fnd (fun x => fnd (fun y => fnd (fun z => tG (X 11) (X 25) nl na x y z) (1 - 0) 0) (1 - 0) 0) (nj + 1 - 1) 1 = none → V w mX8_traced (vc w 6 0 0 (qE (some (.int R)) (cG w a th Z sn gs ps X))) 0 0 36 [(0, .ref (a 0)), (1, .int 2)] [] (cG w a th Z sn gs ps X)) : V w mX8_traced (vc w 6 0 0 (qE (some (.int R)) (cG w a th Z sn gs ps X))) 0 0 36 [(0, .ref (a 0)), (1, .int 1)] [] (cG w a th Z sn gs ps X) := by
  obtain ⟨hn0, hn1, hna, hnj, hnl, hac⟩ := id hN
  refine V_iload_n dX8_traced_36 1 rfl ?_
  refine V_iconst 4 dX8_traced_37 (by decide) ?_
  refine V_icmp_ge_f 201 dX8_traced_38 (by decide) (by decide) ?_
  refine V_iload_n dX8_traced_41 1 rfl ?_
  refine V_if_le_f 51 dX8_traced_42 (by decide) (by decide) ?_
  refine V_iload_n dX8_traced_45 1 rfl ?_
  refine V_iconst 1 dX8_traced_46 (by decide) ?_
  refine V_isub dX8_traced_47 ?_
  refine V_casti (y := 0) (by decide) ?_
  refine V_goto 52 dX8_traced_48 (by decide) ?_
  refine V_istore_n dX8_traced_52 rfl (L' := [(0, .ref (a 0)), (1, .int 1), (2, .int 0)]) rfl ?_
  refine lpx_M_tr1 w a th Z sn gs ps X na nj nl ac hN R ((nj + 1) - 1 + 1) 1 (by omega) (by omega) hR (fun hf => ?_)
  refine V_iinc 2 dX8_traced_195 1 rfl (by decide) rfl (L' := [(0, .ref (a 0)), (1, .int 2)]) rfl ?_
  refine V_goto 36 dX8_traced_198 (by decide) ?_
  exact hnx hf

set_option maxRecDepth 100000 in
set_option maxHeartbeats 4000000 in
theorem lpz_M_tr2 (w : vWd) (a : Nat → Nat) (th : Int32) (Z : ZT) (sn gs ps : Nat) (X : Nat → Nat → Int32) (na nj : Nat) (nl : Nat → Nat) (ac : Nat → Nat → Nat) (hN : okN (X 11) na nj nl ac) (R : Int32) (x y : Nat) (hx : x ≤ nj) (hy : y ≤ nj) : ∀ (m : Nat) (z : Nat), ((1 - z) + 1 ≤ m) → (z ≤ 31) → (∀ v, fnd (fun z => tG (X 11) (X 25) nl na x y z) (1 - z) z = some v → R = v) → (fnd (fun z => tG (X 11) (X 25) nl na x y z) (1 - z) z = none → V w mX8_traced (vc w 6 0 0 (qE (some (.int R)) (cG w a th Z sn gs ps X))) 0 0 183 [(0, .ref (a 0)), (1, .int 2), (2, .int (sI x)), (3, .int (sI y))] [] (cG w a th Z sn gs ps X)) → V w mX8_traced (vc w 6 0 0 (qE (some (.int R)) (cG w a th Z sn gs ps X))) 0 0 110 [(0, .ref (a 0)), (1, .int 2), (2, .int (sI x)), (3, .int (sI y)), (4, .int (sI z))] [] (cG w a th Z sn gs ps X) := by
  intro m
  induction m with
  | zero =>
    intro z h1 hb hR hnx
    exact absurd h1 (by omega)
  | succ m ih =>
    intro z h1 hb hR hnx
    obtain ⟨hn0, hn1, hna, hnj, hnl, hac⟩ := id hN
    refine V_iload dX8_traced_110 4 rfl ?_
    refine V_iload_n dX8_traced_112 1 rfl ?_
    refine V_iconst 2 dX8_traced_113 (by decide) ?_
    refine V_icmp_le_t 121 dX8_traced_114 (by decide) (by decide) ?_
    refine V_iconst 0 dX8_traced_121 (by decide) ?_
    refine V_icmp_ge 183 dX8_traced_122 (by decide) (fun zc2 => ?_) (fun zc2 => ?_)
    · have hge : 1 ≤ z := (sI_le (s := 1) (t := z) (by omega) (by omega)).1 zc2
      refine V_dropL (L' := [(0, .ref (a 0)), (1, .int 2), (2, .int (sI x)), (3, .int (sI y))]) (L'' := [(4, .int (sI z))]) rfl ?_
      exact hnx (by rw [show (1 - z) = 0 by omega]; rfl)
    · have hlt : ¬ 1 ≤ z := fun e => zc2 ((sI_le (s := 1) (t := z) (by omega) (by omega)).2 e)
      rw [show (1 - z) = (1 - (z + 1)) + 1 by omega] at hR hnx
      refine V_aload_n dX8_traced_125 0 rfl ?_
      refine V_iload_n dX8_traced_126 2 rfl ?_
      refine V_selfR dX8_traced_127 lX8_240 (e_M_isCounted w a th Z sn gs ps X x (by omega)) rfl rfl 0 rfl rfl rfl rfl ?_
      refine V_ifeq_b 177 dX8_traced_130 (by decide) (fun zc3 => ?_) (fun zc3 => ?_)
      · have hf : tG (X 11) (X 25) nl na x y z = none := by clear ih hN hR hnx hnl hac; grind [tG]
        refine V_iinc (sI (z + 1)) dX8_traced_177 4 rfl (sI_i1 (by omega)) rfl (L' := [(0, .ref (a 0)), (1, .int 2), (2, .int (sI x)), (3, .int (sI y)), (4, .int (sI (z + 1)))]) rfl ?_
        refine V_goto 110 dX8_traced_180 (by decide) ?_
        exact ih (z + 1) (by omega) (by omega) (fun v e => hR v (by rw [fnd_n (f := (fun z => tG (X 11) (X 25) nl na x y z)) hf]; exact e)) (fun e => hnx (by rw [fnd_n (f := (fun z => tG (X 11) (X 25) nl na x y z)) hf]; exact e))
      · refine V_aload_n dX8_traced_133 0 rfl ?_
        refine V_iload_n dX8_traced_134 3 rfl ?_
        refine V_selfR dX8_traced_135 lX8_240 (e_M_isCounted w a th Z sn gs ps X y (by omega)) rfl rfl 0 rfl rfl rfl rfl ?_
        refine V_ifeq_b 177 dX8_traced_138 (by decide) (fun zc4 => ?_) (fun zc4 => ?_)
        · have hf : tG (X 11) (X 25) nl na x y z = none := by clear ih hN hR hnx hnl hac; grind [tG]
          refine V_iinc (sI (z + 1)) dX8_traced_177 4 rfl (sI_i1 (by omega)) rfl (L' := [(0, .ref (a 0)), (1, .int 2), (2, .int (sI x)), (3, .int (sI y)), (4, .int (sI (z + 1)))]) rfl ?_
          refine V_goto 110 dX8_traced_180 (by decide) ?_
          exact ih (z + 1) (by omega) (by omega) (fun v e => hR v (by rw [fnd_n (f := (fun z => tG (X 11) (X 25) nl na x y z)) hf]; exact e)) (fun e => hnx (by rw [fnd_n (f := (fun z => tG (X 11) (X 25) nl na x y z)) hf]; exact e))
        · refine V_aload_n dX8_traced_141 0 rfl ?_
          refine V_iload dX8_traced_142 4 rfl ?_
          refine V_selfR dX8_traced_144 lX8_240 (e_M_isCounted w a th Z sn gs ps X z (by omega)) rfl rfl 0 rfl rfl rfl rfl ?_
          refine V_ifeq_b 177 dX8_traced_147 (by decide) (fun zc5 => ?_) (fun zc5 => ?_)
          · have hf : tG (X 11) (X 25) nl na x y z = none := by clear ih hN hR hnx hnl hac; grind [tG]
            refine V_iinc (sI (z + 1)) dX8_traced_177 4 rfl (sI_i1 (by omega)) rfl (L' := [(0, .ref (a 0)), (1, .int 2), (2, .int (sI x)), (3, .int (sI y)), (4, .int (sI (z + 1)))]) rfl ?_
            refine V_goto 110 dX8_traced_180 (by decide) ?_
            exact ih (z + 1) (by omega) (by omega) (fun v e => hR v (by rw [fnd_n (f := (fun z => tG (X 11) (X 25) nl na x y z)) hf]; exact e)) (fun e => hnx (by rw [fnd_n (f := (fun z => tG (X 11) (X 25) nl na x y z)) hf]; exact e))
          · refine V_aload_n dX8_traced_150 0 rfl ?_
            refine V_iload_n dX8_traced_151 2 rfl ?_
            refine V_iload_n dX8_traced_152 3 rfl ?_
            refine V_iload dX8_traced_153 4 rfl ?_
            refine V_selfR dX8_traced_155 lX8_243 (e_M_explains w a th Z sn gs ps X x y z na nj nl ac hN (by omega) (by omega) (by omega)) rfl rfl 0 rfl rfl rfl rfl ?_
            refine V_ifeq_b 177 dX8_traced_158 (by decide) (fun zc6 => ?_) (fun zc6 => ?_)
            · have hf : tG (X 11) (X 25) nl na x y z = none := by clear ih hN hR hnx hnl hac; grind [tG]
              refine V_iinc (sI (z + 1)) dX8_traced_177 4 rfl (sI_i1 (by omega)) rfl (L' := [(0, .ref (a 0)), (1, .int 2), (2, .int (sI x)), (3, .int (sI y)), (4, .int (sI (z + 1)))]) rfl ?_
              refine V_goto 110 dX8_traced_180 (by decide) ?_
              exact ih (z + 1) (by omega) (by omega) (fun v e => hR v (by rw [fnd_n (f := (fun z => tG (X 11) (X 25) nl na x y z)) hf]; exact e)) (fun e => hnx (by rw [fnd_n (f := (fun z => tG (X 11) (X 25) nl na x y z)) hf]; exact e))
            · refine V_iload_n dX8_traced_161 2 rfl ?_
              refine V_purS dX8_traced_162 lX8_246 (c_M_bit w x (by omega)) rfl rfl rfl ?_
              refine V_iload_n dX8_traced_165 3 rfl ?_
              refine V_purS dX8_traced_166 lX8_246 (c_M_bit w y (by omega)) rfl rfl rfl ?_
              refine V_ior dX8_traced_169 ?_
              refine V_iload dX8_traced_170 4 rfl ?_
              refine V_purS dX8_traced_172 lX8_246 (c_M_bit w z (by omega)) rfl rfl rfl ?_
              refine V_ior dX8_traced_175 ?_
              refine V_iret dX8_traced_176 rfl (nb rfl) (nb rfl) ?_
              have hs : tG (X 11) (X 25) nl na x y z = some (((bitS x) ||| (bitS y)) ||| (bitS z)) := by clear ih hN hR hnx hnl hac; grind [tG]
              exact ⟨by rw [hR _ (fnd_s (f := (fun z => tG (X 11) (X 25) nl na x y z)) hs)], rfl⟩

set_option maxRecDepth 100000 in
set_option maxHeartbeats 4000000 in
theorem lpy_M_tr2 (w : vWd) (a : Nat → Nat) (th : Int32) (Z : ZT) (sn gs ps : Nat) (X : Nat → Nat → Int32) (na nj : Nat) (nl : Nat → Nat) (ac : Nat → Nat → Nat) (hN : okN (X 11) na nj nl ac) (R : Int32) (x : Nat) (hx : x ≤ nj) : ∀ (m : Nat) (y : Nat), ((x - y) + 1 ≤ m) → (y ≤ 31) → (∀ v, fnd (fun y => fnd (fun z => tG (X 11) (X 25) nl na x y z) (1 - 0) 0) (x - y) y = some v → R = v) → (fnd (fun y => fnd (fun z => tG (X 11) (X 25) nl na x y z) (1 - 0) 0) (x - y) y = none → V w mX8_traced (vc w 6 0 0 (qE (some (.int R)) (cG w a th Z sn gs ps X))) 0 0 189 [(0, .ref (a 0)), (1, .int 2), (2, .int (sI x))] [] (cG w a th Z sn gs ps X)) → V w mX8_traced (vc w 6 0 0 (qE (some (.int R)) (cG w a th Z sn gs ps X))) 0 0 84 [(0, .ref (a 0)), (1, .int 2), (2, .int (sI x)), (3, .int (sI y))] [] (cG w a th Z sn gs ps X) := by
  intro m
  induction m with
  | zero =>
    intro y h1 hb hR hnx
    exact absurd h1 (by omega)
  | succ m ih =>
    intro y h1 hb hR hnx
    obtain ⟨hn0, hn1, hna, hnj, hnl, hac⟩ := id hN
    refine V_iload_n dX8_traced_84 3 rfl ?_
    refine V_iload_n dX8_traced_85 1 rfl ?_
    refine V_iconst 1 dX8_traced_86 (by decide) ?_
    refine V_icmp_le_f 94 dX8_traced_87 (by decide) (by decide) ?_
    refine V_iload_n dX8_traced_90 2 rfl ?_
    refine V_goto 95 dX8_traced_91 (by decide) ?_
    refine V_icmp_ge 189 dX8_traced_95 (by decide) (fun zc2 => ?_) (fun zc2 => ?_)
    · have hge : x ≤ y := (sI_le (s := x) (t := y) (by omega) (by omega)).1 zc2
      refine V_dropL (L' := [(0, .ref (a 0)), (1, .int 2), (2, .int (sI x))]) (L'' := [(3, .int (sI y))]) rfl ?_
      exact hnx (by rw [show (x - y) = 0 by omega]; rfl)
    · have hlt : ¬ x ≤ y := fun e => zc2 ((sI_le (s := x) (t := y) (by omega) (by omega)).2 e)
      rw [show (x - y) = (x - (y + 1)) + 1 by omega] at hR hnx
      refine V_iload_n dX8_traced_98 1 rfl ?_
      refine V_iconst 2 dX8_traced_99 (by decide) ?_
      refine V_icmp_le_t 107 dX8_traced_100 (by decide) (by decide) ?_
      refine V_iconst (-1) dX8_traced_107 (by decide) ?_
      refine V_istore dX8_traced_108 rfl (L' := [(0, .ref (a 0)), (1, .int 2), (2, .int (sI x)), (3, .int (sI y)), (4, .int (-1))]) rfl ?_
      refine lpz_M_tr2 w a th Z sn gs ps X na nj nl ac hN R x y hx (by omega) (1 - 0 + 1) 0 (by omega) (by omega) (fun v e => hR v (fnd_s (f := (fun y => fnd (fun z => tG (X 11) (X 25) nl na x y z) (1 - 0) 0)) e)) (fun hf => ?_)
      refine V_iinc (sI (y + 1)) dX8_traced_183 3 rfl (sI_i1 (by omega)) rfl (L' := [(0, .ref (a 0)), (1, .int 2), (2, .int (sI x)), (3, .int (sI (y + 1)))]) rfl ?_
      refine V_goto 84 dX8_traced_186 (by decide) ?_
      exact ih (y + 1) (by omega) (by omega) (fun v e => hR v (by rw [fnd_n (f := (fun y => fnd (fun z => tG (X 11) (X 25) nl na x y z) (1 - 0) 0)) hf]; exact e)) (fun e => hnx (by rw [fnd_n (f := (fun y => fnd (fun z => tG (X 11) (X 25) nl na x y z) (1 - 0) 0)) hf]; exact e))

set_option maxRecDepth 100000 in
set_option maxHeartbeats 4000000 in
theorem lpx_M_tr2 (w : vWd) (a : Nat → Nat) (th : Int32) (Z : ZT) (sn gs ps : Nat) (X : Nat → Nat → Int32) (na nj : Nat) (nl : Nat → Nat) (ac : Nat → Nat → Nat) (hN : okN (X 11) na nj nl ac) (R : Int32) : ∀ (m : Nat) (x : Nat), (((nj + 1) - x) + 1 ≤ m) → (x ≤ 31) → (∀ v, fnd (fun x => fnd (fun y => fnd (fun z => tG (X 11) (X 25) nl na x y z) (1 - 0) 0) (x - 1) 1) ((nj + 1) - x) x = some v → R = v) → (fnd (fun x => fnd (fun y => fnd (fun z => tG (X 11) (X 25) nl na x y z) (1 - 0) 0) (x - 1) 1) ((nj + 1) - x) x = none → V w mX8_traced (vc w 6 0 0 (qE (some (.int R)) (cG w a th Z sn gs ps X))) 0 0 195 [(0, .ref (a 0)), (1, .int 2)] [] (cG w a th Z sn gs ps X)) → V w mX8_traced (vc w 6 0 0 (qE (some (.int R)) (cG w a th Z sn gs ps X))) 0 0 53 [(0, .ref (a 0)), (1, .int 2), (2, .int (sI x))] [] (cG w a th Z sn gs ps X) := by
  intro m
  induction m with
  | zero =>
    intro x h1 hb hR hnx
    exact absurd h1 (by omega)
  | succ m ih =>
    intro x h1 hb hR hnx
    obtain ⟨hn0, hn1, hna, hnj, hnl, hac⟩ := id hN
    refine V_iload_n dX8_traced_53 2 rfl ?_
    refine V_iload_n dX8_traced_54 1 rfl ?_
    refine V_if_le_f 67 dX8_traced_55 (by decide) (by decide) ?_
    refine V_aload_n dX8_traced_58 0 rfl ?_
    refine V_get dX8_traced_59 fX8_76 0 rfl rfl ?_
    refine V_iconst 1 dX8_traced_62 (by decide) ?_
    refine V_iald dX8_traced_63 2 rfl rfl 1 rfl (by omega) ?_
    refine V_casti (y := nI nj) hn1 ?_
    refine V_goto 68 dX8_traced_64 (by decide) ?_
    refine V_icmp_ge 195 dX8_traced_68 (by decide) (fun zc2 => ?_) (fun zc2 => ?_)
    · have hge : (nj + 1) ≤ x := (sI_le (s := (nj + 1)) (t := x) (by omega) (by omega)).1 zc2
      refine V_dropL (L' := [(0, .ref (a 0)), (1, .int 2)]) (L'' := [(2, .int (sI x))]) rfl ?_
      exact hnx (by rw [show ((nj + 1) - x) = 0 by omega]; rfl)
    · have hlt : ¬ (nj + 1) ≤ x := fun e => zc2 ((sI_le (s := (nj + 1)) (t := x) (by omega) (by omega)).2 e)
      rw [show ((nj + 1) - x) = ((nj + 1) - (x + 1)) + 1 by omega] at hR hnx
      refine V_iload_n dX8_traced_71 1 rfl ?_
      refine V_iconst 1 dX8_traced_72 (by decide) ?_
      refine V_icmp_le_f 82 dX8_traced_73 (by decide) (by decide) ?_
      refine V_iload_n dX8_traced_76 1 rfl ?_
      refine V_iconst 2 dX8_traced_77 (by decide) ?_
      refine V_isub dX8_traced_78 ?_
      refine V_casti (y := 0) (by decide) ?_
      refine V_goto 83 dX8_traced_79 (by decide) ?_
      refine V_istore_n dX8_traced_83 rfl (L' := [(0, .ref (a 0)), (1, .int 2), (2, .int (sI x)), (3, .int 0)]) rfl ?_
      refine lpy_M_tr2 w a th Z sn gs ps X na nj nl ac hN R x (by omega) (x - 1 + 1) 1 (by omega) (by omega) (fun v e => hR v (fnd_s (f := (fun x => fnd (fun y => fnd (fun z => tG (X 11) (X 25) nl na x y z) (1 - 0) 0) (x - 1) 1)) e)) (fun hf => ?_)
      refine V_iinc (sI (x + 1)) dX8_traced_189 2 rfl (sI_i1 (by omega)) rfl (L' := [(0, .ref (a 0)), (1, .int 2), (2, .int (sI (x + 1)))]) rfl ?_
      refine V_goto 53 dX8_traced_192 (by decide) ?_
      exact ih (x + 1) (by omega) (by omega) (fun v e => hR v (by rw [fnd_n (f := (fun x => fnd (fun y => fnd (fun z => tG (X 11) (X 25) nl na x y z) (1 - 0) 0) (x - 1) 1)) hf]; exact e)) (fun e => hnx (by rw [fnd_n (f := (fun x => fnd (fun y => fnd (fun z => tG (X 11) (X 25) nl na x y z) (1 - 0) 0) (x - 1) 1)) hf]; exact e))

set_option maxRecDepth 100000 in
set_option maxHeartbeats 4000000 in
theorem trm_M_2 (w : vWd) (a : Nat → Nat) (th : Int32) (Z : ZT) (sn gs ps : Nat) (X : Nat → Nat → Int32) (na nj : Nat) (nl : Nat → Nat) (ac : Nat → Nat → Nat) (hN : okN (X 11) na nj nl ac) (R : Int32) (hR : ∀ v, fnd (fun x => fnd (fun y => fnd (fun z => tG (X 11) (X 25) nl na x y z) (1 - 0) 0) (x - 1) 1) (nj + 1 - 2) 2 = some v → R = v) (hnx : fnd (fun x => fnd (fun y => fnd (fun z => tG (X 11) (X 25) nl na x y z) (1 - 0) 0) (x - 1) 1) (nj + 1 - 2) 2 = none → V w mX8_traced (vc w 6 0 0 (qE (some (.int R)) (cG w a th Z sn gs ps X))) 0 0 36 [(0, .ref (a 0)), (1, .int 3)] [] (cG w a th Z sn gs ps X)) : V w mX8_traced (vc w 6 0 0 (qE (some (.int R)) (cG w a th Z sn gs ps X))) 0 0 36 [(0, .ref (a 0)), (1, .int 2)] [] (cG w a th Z sn gs ps X) := by
  obtain ⟨hn0, hn1, hna, hnj, hnl, hac⟩ := id hN
  refine V_iload_n dX8_traced_36 1 rfl ?_
  refine V_iconst 4 dX8_traced_37 (by decide) ?_
  refine V_icmp_ge_f 201 dX8_traced_38 (by decide) (by decide) ?_
  refine V_iload_n dX8_traced_41 1 rfl ?_
  refine V_if_le_f 51 dX8_traced_42 (by decide) (by decide) ?_
  refine V_iload_n dX8_traced_45 1 rfl ?_
  refine V_iconst 1 dX8_traced_46 (by decide) ?_
  refine V_isub dX8_traced_47 ?_
  refine V_casti (y := 1) (by decide) ?_
  refine V_goto 52 dX8_traced_48 (by decide) ?_
  refine V_istore_n dX8_traced_52 rfl (L' := [(0, .ref (a 0)), (1, .int 2), (2, .int 1)]) rfl ?_
  refine lpx_M_tr2 w a th Z sn gs ps X na nj nl ac hN R ((nj + 1) - 2 + 1) 2 (by omega) (by omega) hR (fun hf => ?_)
  refine V_iinc 3 dX8_traced_195 1 rfl (by decide) rfl (L' := [(0, .ref (a 0)), (1, .int 3)]) rfl ?_
  refine V_goto 36 dX8_traced_198 (by decide) ?_
  exact hnx hf

set_option maxRecDepth 100000 in
set_option maxHeartbeats 4000000 in
theorem lpz_M_tr3 (w : vWd) (a : Nat → Nat) (th : Int32) (Z : ZT) (sn gs ps : Nat) (X : Nat → Nat → Int32) (na nj : Nat) (nl : Nat → Nat) (ac : Nat → Nat → Nat) (hN : okN (X 11) na nj nl ac) (R : Int32) (x y : Nat) (hx : x ≤ nj) (hy : y ≤ nj) : ∀ (m : Nat) (z : Nat), ((y - z) + 1 ≤ m) → (z ≤ 31) → (∀ v, fnd (fun z => tG (X 11) (X 25) nl na x y z) (y - z) z = some v → R = v) → (fnd (fun z => tG (X 11) (X 25) nl na x y z) (y - z) z = none → V w mX8_traced (vc w 6 0 0 (qE (some (.int R)) (cG w a th Z sn gs ps X))) 0 0 183 [(0, .ref (a 0)), (1, .int 3), (2, .int (sI x)), (3, .int (sI y))] [] (cG w a th Z sn gs ps X)) → V w mX8_traced (vc w 6 0 0 (qE (some (.int R)) (cG w a th Z sn gs ps X))) 0 0 110 [(0, .ref (a 0)), (1, .int 3), (2, .int (sI x)), (3, .int (sI y)), (4, .int (sI z))] [] (cG w a th Z sn gs ps X) := by
  intro m
  induction m with
  | zero =>
    intro z h1 hb hR hnx
    exact absurd h1 (by omega)
  | succ m ih =>
    intro z h1 hb hR hnx
    obtain ⟨hn0, hn1, hna, hnj, hnl, hac⟩ := id hN
    refine V_iload dX8_traced_110 4 rfl ?_
    refine V_iload_n dX8_traced_112 1 rfl ?_
    refine V_iconst 2 dX8_traced_113 (by decide) ?_
    refine V_icmp_le_f 121 dX8_traced_114 (by decide) (by decide) ?_
    refine V_iload_n dX8_traced_117 3 rfl ?_
    refine V_goto 122 dX8_traced_118 (by decide) ?_
    refine V_icmp_ge 183 dX8_traced_122 (by decide) (fun zc2 => ?_) (fun zc2 => ?_)
    · have hge : y ≤ z := (sI_le (s := y) (t := z) (by omega) (by omega)).1 zc2
      refine V_dropL (L' := [(0, .ref (a 0)), (1, .int 3), (2, .int (sI x)), (3, .int (sI y))]) (L'' := [(4, .int (sI z))]) rfl ?_
      exact hnx (by rw [show (y - z) = 0 by omega]; rfl)
    · have hlt : ¬ y ≤ z := fun e => zc2 ((sI_le (s := y) (t := z) (by omega) (by omega)).2 e)
      rw [show (y - z) = (y - (z + 1)) + 1 by omega] at hR hnx
      refine V_aload_n dX8_traced_125 0 rfl ?_
      refine V_iload_n dX8_traced_126 2 rfl ?_
      refine V_selfR dX8_traced_127 lX8_240 (e_M_isCounted w a th Z sn gs ps X x (by omega)) rfl rfl 0 rfl rfl rfl rfl ?_
      refine V_ifeq_b 177 dX8_traced_130 (by decide) (fun zc3 => ?_) (fun zc3 => ?_)
      · have hf : tG (X 11) (X 25) nl na x y z = none := by clear ih hN hR hnx hnl hac; grind [tG]
        refine V_iinc (sI (z + 1)) dX8_traced_177 4 rfl (sI_i1 (by omega)) rfl (L' := [(0, .ref (a 0)), (1, .int 3), (2, .int (sI x)), (3, .int (sI y)), (4, .int (sI (z + 1)))]) rfl ?_
        refine V_goto 110 dX8_traced_180 (by decide) ?_
        exact ih (z + 1) (by omega) (by omega) (fun v e => hR v (by rw [fnd_n (f := (fun z => tG (X 11) (X 25) nl na x y z)) hf]; exact e)) (fun e => hnx (by rw [fnd_n (f := (fun z => tG (X 11) (X 25) nl na x y z)) hf]; exact e))
      · refine V_aload_n dX8_traced_133 0 rfl ?_
        refine V_iload_n dX8_traced_134 3 rfl ?_
        refine V_selfR dX8_traced_135 lX8_240 (e_M_isCounted w a th Z sn gs ps X y (by omega)) rfl rfl 0 rfl rfl rfl rfl ?_
        refine V_ifeq_b 177 dX8_traced_138 (by decide) (fun zc4 => ?_) (fun zc4 => ?_)
        · have hf : tG (X 11) (X 25) nl na x y z = none := by clear ih hN hR hnx hnl hac; grind [tG]
          refine V_iinc (sI (z + 1)) dX8_traced_177 4 rfl (sI_i1 (by omega)) rfl (L' := [(0, .ref (a 0)), (1, .int 3), (2, .int (sI x)), (3, .int (sI y)), (4, .int (sI (z + 1)))]) rfl ?_
          refine V_goto 110 dX8_traced_180 (by decide) ?_
          exact ih (z + 1) (by omega) (by omega) (fun v e => hR v (by rw [fnd_n (f := (fun z => tG (X 11) (X 25) nl na x y z)) hf]; exact e)) (fun e => hnx (by rw [fnd_n (f := (fun z => tG (X 11) (X 25) nl na x y z)) hf]; exact e))
        · refine V_aload_n dX8_traced_141 0 rfl ?_
          refine V_iload dX8_traced_142 4 rfl ?_
          refine V_selfR dX8_traced_144 lX8_240 (e_M_isCounted w a th Z sn gs ps X z (by omega)) rfl rfl 0 rfl rfl rfl rfl ?_
          refine V_ifeq_b 177 dX8_traced_147 (by decide) (fun zc5 => ?_) (fun zc5 => ?_)
          · have hf : tG (X 11) (X 25) nl na x y z = none := by clear ih hN hR hnx hnl hac; grind [tG]
            refine V_iinc (sI (z + 1)) dX8_traced_177 4 rfl (sI_i1 (by omega)) rfl (L' := [(0, .ref (a 0)), (1, .int 3), (2, .int (sI x)), (3, .int (sI y)), (4, .int (sI (z + 1)))]) rfl ?_
            refine V_goto 110 dX8_traced_180 (by decide) ?_
            exact ih (z + 1) (by omega) (by omega) (fun v e => hR v (by rw [fnd_n (f := (fun z => tG (X 11) (X 25) nl na x y z)) hf]; exact e)) (fun e => hnx (by rw [fnd_n (f := (fun z => tG (X 11) (X 25) nl na x y z)) hf]; exact e))
          · refine V_aload_n dX8_traced_150 0 rfl ?_
            refine V_iload_n dX8_traced_151 2 rfl ?_
            refine V_iload_n dX8_traced_152 3 rfl ?_
            refine V_iload dX8_traced_153 4 rfl ?_
            refine V_selfR dX8_traced_155 lX8_243 (e_M_explains w a th Z sn gs ps X x y z na nj nl ac hN (by omega) (by omega) (by omega)) rfl rfl 0 rfl rfl rfl rfl ?_
            refine V_ifeq_b 177 dX8_traced_158 (by decide) (fun zc6 => ?_) (fun zc6 => ?_)
            · have hf : tG (X 11) (X 25) nl na x y z = none := by clear ih hN hR hnx hnl hac; grind [tG]
              refine V_iinc (sI (z + 1)) dX8_traced_177 4 rfl (sI_i1 (by omega)) rfl (L' := [(0, .ref (a 0)), (1, .int 3), (2, .int (sI x)), (3, .int (sI y)), (4, .int (sI (z + 1)))]) rfl ?_
              refine V_goto 110 dX8_traced_180 (by decide) ?_
              exact ih (z + 1) (by omega) (by omega) (fun v e => hR v (by rw [fnd_n (f := (fun z => tG (X 11) (X 25) nl na x y z)) hf]; exact e)) (fun e => hnx (by rw [fnd_n (f := (fun z => tG (X 11) (X 25) nl na x y z)) hf]; exact e))
            · refine V_iload_n dX8_traced_161 2 rfl ?_
              refine V_purS dX8_traced_162 lX8_246 (c_M_bit w x (by omega)) rfl rfl rfl ?_
              refine V_iload_n dX8_traced_165 3 rfl ?_
              refine V_purS dX8_traced_166 lX8_246 (c_M_bit w y (by omega)) rfl rfl rfl ?_
              refine V_ior dX8_traced_169 ?_
              refine V_iload dX8_traced_170 4 rfl ?_
              refine V_purS dX8_traced_172 lX8_246 (c_M_bit w z (by omega)) rfl rfl rfl ?_
              refine V_ior dX8_traced_175 ?_
              refine V_iret dX8_traced_176 rfl (nb rfl) (nb rfl) ?_
              have hs : tG (X 11) (X 25) nl na x y z = some (((bitS x) ||| (bitS y)) ||| (bitS z)) := by clear ih hN hR hnx hnl hac; grind [tG]
              exact ⟨by rw [hR _ (fnd_s (f := (fun z => tG (X 11) (X 25) nl na x y z)) hs)], rfl⟩

set_option maxRecDepth 100000 in
set_option maxHeartbeats 4000000 in
theorem lpy_M_tr3 (w : vWd) (a : Nat → Nat) (th : Int32) (Z : ZT) (sn gs ps : Nat) (X : Nat → Nat → Int32) (na nj : Nat) (nl : Nat → Nat) (ac : Nat → Nat → Nat) (hN : okN (X 11) na nj nl ac) (R : Int32) (x : Nat) (hx : x ≤ nj) : ∀ (m : Nat) (y : Nat), ((x - y) + 1 ≤ m) → (y ≤ 31) → (∀ v, fnd (fun y => fnd (fun z => tG (X 11) (X 25) nl na x y z) (y - 1) 1) (x - y) y = some v → R = v) → (fnd (fun y => fnd (fun z => tG (X 11) (X 25) nl na x y z) (y - 1) 1) (x - y) y = none → V w mX8_traced (vc w 6 0 0 (qE (some (.int R)) (cG w a th Z sn gs ps X))) 0 0 189 [(0, .ref (a 0)), (1, .int 3), (2, .int (sI x))] [] (cG w a th Z sn gs ps X)) → V w mX8_traced (vc w 6 0 0 (qE (some (.int R)) (cG w a th Z sn gs ps X))) 0 0 84 [(0, .ref (a 0)), (1, .int 3), (2, .int (sI x)), (3, .int (sI y))] [] (cG w a th Z sn gs ps X) := by
  intro m
  induction m with
  | zero =>
    intro y h1 hb hR hnx
    exact absurd h1 (by omega)
  | succ m ih =>
    intro y h1 hb hR hnx
    obtain ⟨hn0, hn1, hna, hnj, hnl, hac⟩ := id hN
    refine V_iload_n dX8_traced_84 3 rfl ?_
    refine V_iload_n dX8_traced_85 1 rfl ?_
    refine V_iconst 1 dX8_traced_86 (by decide) ?_
    refine V_icmp_le_f 94 dX8_traced_87 (by decide) (by decide) ?_
    refine V_iload_n dX8_traced_90 2 rfl ?_
    refine V_goto 95 dX8_traced_91 (by decide) ?_
    refine V_icmp_ge 189 dX8_traced_95 (by decide) (fun zc2 => ?_) (fun zc2 => ?_)
    · have hge : x ≤ y := (sI_le (s := x) (t := y) (by omega) (by omega)).1 zc2
      refine V_dropL (L' := [(0, .ref (a 0)), (1, .int 3), (2, .int (sI x))]) (L'' := [(3, .int (sI y))]) rfl ?_
      exact hnx (by rw [show (x - y) = 0 by omega]; rfl)
    · have hlt : ¬ x ≤ y := fun e => zc2 ((sI_le (s := x) (t := y) (by omega) (by omega)).2 e)
      rw [show (x - y) = (x - (y + 1)) + 1 by omega] at hR hnx
      refine V_iload_n dX8_traced_98 1 rfl ?_
      refine V_iconst 2 dX8_traced_99 (by decide) ?_
      refine V_icmp_le_f 107 dX8_traced_100 (by decide) (by decide) ?_
      refine V_iconst 0 dX8_traced_103 (by decide) ?_
      refine V_goto 108 dX8_traced_104 (by decide) ?_
      refine V_istore dX8_traced_108 rfl (L' := [(0, .ref (a 0)), (1, .int 3), (2, .int (sI x)), (3, .int (sI y)), (4, .int 0)]) rfl ?_
      refine lpz_M_tr3 w a th Z sn gs ps X na nj nl ac hN R x y hx (by omega) (y - 1 + 1) 1 (by omega) (by omega) (fun v e => hR v (fnd_s (f := (fun y => fnd (fun z => tG (X 11) (X 25) nl na x y z) (y - 1) 1)) e)) (fun hf => ?_)
      refine V_iinc (sI (y + 1)) dX8_traced_183 3 rfl (sI_i1 (by omega)) rfl (L' := [(0, .ref (a 0)), (1, .int 3), (2, .int (sI x)), (3, .int (sI (y + 1)))]) rfl ?_
      refine V_goto 84 dX8_traced_186 (by decide) ?_
      exact ih (y + 1) (by omega) (by omega) (fun v e => hR v (by rw [fnd_n (f := (fun y => fnd (fun z => tG (X 11) (X 25) nl na x y z) (y - 1) 1)) hf]; exact e)) (fun e => hnx (by rw [fnd_n (f := (fun y => fnd (fun z => tG (X 11) (X 25) nl na x y z) (y - 1) 1)) hf]; exact e))

set_option maxRecDepth 100000 in
set_option maxHeartbeats 4000000 in
theorem lpx_M_tr3 (w : vWd) (a : Nat → Nat) (th : Int32) (Z : ZT) (sn gs ps : Nat) (X : Nat → Nat → Int32) (na nj : Nat) (nl : Nat → Nat) (ac : Nat → Nat → Nat) (hN : okN (X 11) na nj nl ac) (R : Int32) : ∀ (m : Nat) (x : Nat), (((nj + 1) - x) + 1 ≤ m) → (x ≤ 31) → (∀ v, fnd (fun x => fnd (fun y => fnd (fun z => tG (X 11) (X 25) nl na x y z) (y - 1) 1) (x - 2) 2) ((nj + 1) - x) x = some v → R = v) → (fnd (fun x => fnd (fun y => fnd (fun z => tG (X 11) (X 25) nl na x y z) (y - 1) 1) (x - 2) 2) ((nj + 1) - x) x = none → V w mX8_traced (vc w 6 0 0 (qE (some (.int R)) (cG w a th Z sn gs ps X))) 0 0 195 [(0, .ref (a 0)), (1, .int 3)] [] (cG w a th Z sn gs ps X)) → V w mX8_traced (vc w 6 0 0 (qE (some (.int R)) (cG w a th Z sn gs ps X))) 0 0 53 [(0, .ref (a 0)), (1, .int 3), (2, .int (sI x))] [] (cG w a th Z sn gs ps X) := by
  intro m
  induction m with
  | zero =>
    intro x h1 hb hR hnx
    exact absurd h1 (by omega)
  | succ m ih =>
    intro x h1 hb hR hnx
    obtain ⟨hn0, hn1, hna, hnj, hnl, hac⟩ := id hN
    refine V_iload_n dX8_traced_53 2 rfl ?_
    refine V_iload_n dX8_traced_54 1 rfl ?_
    refine V_if_le_f 67 dX8_traced_55 (by decide) (by decide) ?_
    refine V_aload_n dX8_traced_58 0 rfl ?_
    refine V_get dX8_traced_59 fX8_76 0 rfl rfl ?_
    refine V_iconst 1 dX8_traced_62 (by decide) ?_
    refine V_iald dX8_traced_63 2 rfl rfl 1 rfl (by omega) ?_
    refine V_casti (y := nI nj) hn1 ?_
    refine V_goto 68 dX8_traced_64 (by decide) ?_
    refine V_icmp_ge 195 dX8_traced_68 (by decide) (fun zc2 => ?_) (fun zc2 => ?_)
    · have hge : (nj + 1) ≤ x := (sI_le (s := (nj + 1)) (t := x) (by omega) (by omega)).1 zc2
      refine V_dropL (L' := [(0, .ref (a 0)), (1, .int 3)]) (L'' := [(2, .int (sI x))]) rfl ?_
      exact hnx (by rw [show ((nj + 1) - x) = 0 by omega]; rfl)
    · have hlt : ¬ (nj + 1) ≤ x := fun e => zc2 ((sI_le (s := (nj + 1)) (t := x) (by omega) (by omega)).2 e)
      rw [show ((nj + 1) - x) = ((nj + 1) - (x + 1)) + 1 by omega] at hR hnx
      refine V_iload_n dX8_traced_71 1 rfl ?_
      refine V_iconst 1 dX8_traced_72 (by decide) ?_
      refine V_icmp_le_f 82 dX8_traced_73 (by decide) (by decide) ?_
      refine V_iload_n dX8_traced_76 1 rfl ?_
      refine V_iconst 2 dX8_traced_77 (by decide) ?_
      refine V_isub dX8_traced_78 ?_
      refine V_casti (y := 1) (by decide) ?_
      refine V_goto 83 dX8_traced_79 (by decide) ?_
      refine V_istore_n dX8_traced_83 rfl (L' := [(0, .ref (a 0)), (1, .int 3), (2, .int (sI x)), (3, .int 1)]) rfl ?_
      refine lpy_M_tr3 w a th Z sn gs ps X na nj nl ac hN R x (by omega) (x - 2 + 1) 2 (by omega) (by omega) (fun v e => hR v (fnd_s (f := (fun x => fnd (fun y => fnd (fun z => tG (X 11) (X 25) nl na x y z) (y - 1) 1) (x - 2) 2)) e)) (fun hf => ?_)
      refine V_iinc (sI (x + 1)) dX8_traced_189 2 rfl (sI_i1 (by omega)) rfl (L' := [(0, .ref (a 0)), (1, .int 3), (2, .int (sI (x + 1)))]) rfl ?_
      refine V_goto 53 dX8_traced_192 (by decide) ?_
      exact ih (x + 1) (by omega) (by omega) (fun v e => hR v (by rw [fnd_n (f := (fun x => fnd (fun y => fnd (fun z => tG (X 11) (X 25) nl na x y z) (y - 1) 1) (x - 2) 2)) hf]; exact e)) (fun e => hnx (by rw [fnd_n (f := (fun x => fnd (fun y => fnd (fun z => tG (X 11) (X 25) nl na x y z) (y - 1) 1) (x - 2) 2)) hf]; exact e))

set_option maxRecDepth 100000 in
set_option maxHeartbeats 4000000 in
theorem trm_M_3 (w : vWd) (a : Nat → Nat) (th : Int32) (Z : ZT) (sn gs ps : Nat) (X : Nat → Nat → Int32) (na nj : Nat) (nl : Nat → Nat) (ac : Nat → Nat → Nat) (hN : okN (X 11) na nj nl ac) (R : Int32) (hR : ∀ v, fnd (fun x => fnd (fun y => fnd (fun z => tG (X 11) (X 25) nl na x y z) (y - 1) 1) (x - 2) 2) (nj + 1 - 3) 3 = some v → R = v) (hnx : fnd (fun x => fnd (fun y => fnd (fun z => tG (X 11) (X 25) nl na x y z) (y - 1) 1) (x - 2) 2) (nj + 1 - 3) 3 = none → V w mX8_traced (vc w 6 0 0 (qE (some (.int R)) (cG w a th Z sn gs ps X))) 0 0 36 [(0, .ref (a 0)), (1, .int 4)] [] (cG w a th Z sn gs ps X)) : V w mX8_traced (vc w 6 0 0 (qE (some (.int R)) (cG w a th Z sn gs ps X))) 0 0 36 [(0, .ref (a 0)), (1, .int 3)] [] (cG w a th Z sn gs ps X) := by
  obtain ⟨hn0, hn1, hna, hnj, hnl, hac⟩ := id hN
  refine V_iload_n dX8_traced_36 1 rfl ?_
  refine V_iconst 4 dX8_traced_37 (by decide) ?_
  refine V_icmp_ge_f 201 dX8_traced_38 (by decide) (by decide) ?_
  refine V_iload_n dX8_traced_41 1 rfl ?_
  refine V_if_le_f 51 dX8_traced_42 (by decide) (by decide) ?_
  refine V_iload_n dX8_traced_45 1 rfl ?_
  refine V_iconst 1 dX8_traced_46 (by decide) ?_
  refine V_isub dX8_traced_47 ?_
  refine V_casti (y := 2) (by decide) ?_
  refine V_goto 52 dX8_traced_48 (by decide) ?_
  refine V_istore_n dX8_traced_52 rfl (L' := [(0, .ref (a 0)), (1, .int 3), (2, .int 2)]) rfl ?_
  refine lpx_M_tr3 w a th Z sn gs ps X na nj nl ac hN R ((nj + 1) - 3 + 1) 3 (by omega) (by omega) hR (fun hf => ?_)
  refine V_iinc 4 dX8_traced_195 1 rfl (by decide) rfl (L' := [(0, .ref (a 0)), (1, .int 4)]) rfl ?_
  refine V_goto 36 dX8_traced_198 (by decide) ?_
  exact hnx hf

def trM0 (N O : Nat → Int32) (nl : Nat → Nat) (na nj : Nat) : Option Int32 := fnd (fun x => fnd (fun y => fnd (fun z => tG N O nl na x y z) (1 - 0) 0) (1 - 0) 0) (1 - 0) 0
def trM1 (N O : Nat → Int32) (nl : Nat → Nat) (na nj : Nat) : Option Int32 := fnd (fun x => fnd (fun y => fnd (fun z => tG N O nl na x y z) (1 - 0) 0) (1 - 0) 0) (nj + 1 - 1) 1
def trM2 (N O : Nat → Int32) (nl : Nat → Nat) (na nj : Nat) : Option Int32 := fnd (fun x => fnd (fun y => fnd (fun z => tG N O nl na x y z) (1 - 0) 0) (x - 1) 1) (nj + 1 - 2) 2
def trM3 (N O : Nat → Int32) (nl : Nat → Nat) (na nj : Nat) : Option Int32 := fnd (fun x => fnd (fun y => fnd (fun z => tG N O nl na x y z) (y - 1) 1) (x - 2) 2) (nj + 1 - 3) 3
def mTr (N O : Nat → Int32) (nl : Nat → Nat) (na nj : Nat) : Int32 := match trM0 N O nl na nj with
  | some v => v
  | none => match trM1 N O nl na nj with
    | some v => v
    | none => match trM2 N O nl na nj with
      | some v => v
      | none => match trM3 N O nl na nj with
        | some v => v
        | none => -1

set_option maxRecDepth 100000 in
set_option maxHeartbeats 4000000 in
theorem lp_M_over (w : vWd) (a : Nat → Nat) (Z : ZT) (sn gs ps : Nat) (X : Nat → Nat → Int32) (na nj : Nat) (nl : Nat → Nat) (ac : Nat → Nat → Nat) (hN : okN (X 11) na nj nl ac) : ∀ (m : Nat) (k : Nat), (na + 1 ≤ k + m) → (k ≤ na) → V w mX8_traced (vc w 6 0 0 (qE (some (.int (mTr (X 11) (cps (X 25) 0 (mRes (X 11) nl nj) na) nl na nj))) (cG w a 0 Z sn gs ps (uX X 25 (cps (X 25) 0 (mRes (X 11) nl nj) na))))) 0 0 7 [(0, .ref (a 0)), (1, .int (nI k))] [] (cG w a 0 Z sn gs ps (uX X 25 (cps (X 25) 0 (mRes (X 11) nl nj) k))) := by
  intro m
  induction m with
  | zero =>
    intro k h1 h2
    exact absurd h1 (by omega)
  | succ m ih =>
    intro k h1 h2
    obtain ⟨hn0, hn1, hna, hnj, hnl, hac⟩ := id hN
    refine V_iload_n dX8_traced_7 1 rfl ?_
    refine V_aload_n dX8_traced_8 0 rfl ?_
    refine V_get dX8_traced_9 fX8_76 0 rfl rfl ?_
    refine V_iconst 0 dX8_traced_12 (by decide) ?_
    refine V_iald dX8_traced_13 2 rfl rfl 0 rfl (by omega) ?_
    refine V_casti (y := nI na) hn0 ?_
    refine V_icmp_ge_n k na 34 dX8_traced_14 (by decide) (by omega) (by omega) (fun zc1 => ?_) (fun zc1 => ?_)
    · obtain rfl : na = k := by omega
      refine V_iconst 0 dX8_traced_34 (by decide) ?_
      refine V_istore_n dX8_traced_35 rfl (L' := [(0, .ref (a 0)), (1, .int 0)]) rfl ?_
      refine trm_M_0 w a 0 Z sn gs ps (uX X 25 (cps (X 25) 0 (mRes (X 11) nl nj) na)) na nj nl ac hN (mTr (X 11) (cps (X 25) 0 (mRes (X 11) nl nj) na) nl na nj) (fun v e => ?_) (fun e => ?_)
      · have e9 : trM0 (X 11) (cps (X 25) 0 (mRes (X 11) nl nj) na) nl na nj = some v := e
        rw [mTr, e9]
      have e0 : trM0 (X 11) (cps (X 25) 0 (mRes (X 11) nl nj) na) nl na nj = none := e
      refine trm_M_1 w a 0 Z sn gs ps (uX X 25 (cps (X 25) 0 (mRes (X 11) nl nj) na)) na nj nl ac hN (mTr (X 11) (cps (X 25) 0 (mRes (X 11) nl nj) na) nl na nj) (fun v e => ?_) (fun e => ?_)
      · have e9 : trM1 (X 11) (cps (X 25) 0 (mRes (X 11) nl nj) na) nl na nj = some v := e
        rw [mTr, e0, e9]
      have e1 : trM1 (X 11) (cps (X 25) 0 (mRes (X 11) nl nj) na) nl na nj = none := e
      refine trm_M_2 w a 0 Z sn gs ps (uX X 25 (cps (X 25) 0 (mRes (X 11) nl nj) na)) na nj nl ac hN (mTr (X 11) (cps (X 25) 0 (mRes (X 11) nl nj) na) nl na nj) (fun v e => ?_) (fun e => ?_)
      · have e9 : trM2 (X 11) (cps (X 25) 0 (mRes (X 11) nl nj) na) nl na nj = some v := e
        rw [mTr, e0, e1, e9]
      have e2 : trM2 (X 11) (cps (X 25) 0 (mRes (X 11) nl nj) na) nl na nj = none := e
      refine trm_M_3 w a 0 Z sn gs ps (uX X 25 (cps (X 25) 0 (mRes (X 11) nl nj) na)) na nj nl ac hN (mTr (X 11) (cps (X 25) 0 (mRes (X 11) nl nj) na) nl na nj) (fun v e => ?_) (fun e => ?_)
      · have e9 : trM3 (X 11) (cps (X 25) 0 (mRes (X 11) nl nj) na) nl na nj = some v := e
        rw [mTr, e0, e1, e2, e9]
      have e3 : trM3 (X 11) (cps (X 25) 0 (mRes (X 11) nl nj) na) nl na nj = none := e
      refine V_iload_n dX8_traced_36 1 rfl ?_
      refine V_iconst 4 dX8_traced_37 (by decide) ?_
      refine V_icmp_ge_t 201 dX8_traced_38 (by decide) (by decide) ?_
      refine V_iconst (-1) dX8_traced_201 (by decide) ?_
      exact V_iret dX8_traced_202 rfl (nb rfl) (nb rfl) ⟨by rw [mTr, e0, e1, e2, e3] <;> rfl, rfl⟩
    · refine V_aload_n dX8_traced_17 0 rfl ?_
      refine V_get dX8_traced_18 fX8_106 0 rfl rfl ?_
      refine V_iload_n dX8_traced_21 1 rfl ?_
      refine V_aload_n dX8_traced_22 0 rfl ?_
      refine V_iload_n dX8_traced_23 1 rfl ?_
      refine V_selfR dX8_traced_24 lX8_212 (e_M_residual w a 0 Z sn gs ps (uX X 25 (cps (X 25) 0 (mRes (X 11) nl nj) k)) k na nj nl ac hN (by omega)) rfl rfl 0 rfl rfl rfl rfl ?_
      refine V_iast dX8_traced_27 12 rfl rfl k rfl (by omega) (ws' := cG w a 0 Z sn gs ps (uX X 25 (upd (cps (X 25) 0 (mRes (X 11) nl nj) k) k (mRes (X 11) nl nj k)))) rfl ?_
      refine V_iinc (nI (k + 1)) dX8_traced_28 1 rfl (nI_i1 k) rfl (L' := [(0, .ref (a 0)), (1, .int (nI (k + 1)))]) rfl ?_
      refine V_goto 7 dX8_traced_31 (by decide) ?_
      refine V_ws (ws' := cG w a 0 Z sn gs ps (uX X 25 (cps (X 25) 0 (mRes (X 11) nl nj) (k + 1)))) (by rw [← cps_s, Nat.zero_add]) ?_
      exact ih (k + 1) (by omega) (by omega)

set_option maxRecDepth 100000 in
set_option maxHeartbeats 4000000 in
theorem e_M_traced (w : vWd) (a : Nat → Nat) (th : Int32) (Z : ZT) (sn gs ps : Nat) (X : Nat → Nat → Int32) (na nj : Nat) (nl : Nat → Nat) (ac : Nat → Nat → Nat) (hN : okN (X 11) na nj nl ac) : Ct w mX8_traced 6 0 0 [.ref (a 0)] (cG w a th Z sn gs ps X) (qE (some (.int (mTr (X 11) (cps (X 25) 0 (mRes (X 11) nl nj) na) nl na nj))) (cG w a 0 Z sn gs ps (uX X 25 (cps (X 25) 0 (mRes (X 11) nl nj) na)))) := by
  refine Ct.of (L := [(0, .ref (a 0))]) (by decide) rfl rfl ?_
  refine V_aload_n dX8_traced_0 0 rfl ?_
  refine V_iconst 0 dX8_traced_1 (by decide) ?_
  refine V_put dX8_traced_2 pX8_1 0 rfl rfl rfl rfl (ws' := cG w a 0 Z sn gs ps X) rfl ?_
  refine V_iconst 0 dX8_traced_5 (by decide) ?_
  refine V_istore_n dX8_traced_6 rfl (L' := [(0, .ref (a 0)), (1, .int 0)]) rfl ?_
  have hx := lp_M_over w a Z sn gs ps X na nj nl ac hN (na + 1) 0 (by omega) (by omega)
  rw [cps_0] at hx
  exact hx
