/-! 24: the reference: explains, isCounted, bit, traced -/
/-- a journal's number, or none: moved up by one -/
abbrev sI : Nat → Int32 | 0 => -1 | n + 1 => nI n
theorem sI_cl {t : Nat} (h : t ≤ 40) : (sI t).toInt = (t : Int) - 1 := by
  cases t with
  | zero => decide
  | succ n => show (nI n).toInt = _; rw [nI_toInt (by omega)]; omega
theorem sI_0 {t : Nat} (h : t ≤ 40) (e : sI t = -1) : t = 0 := by
  have h1 := sI_cl h
  rw [e] at h1
  have h2 : (-1 : Int32).toInt = -1 := by decide
  omega
theorem sI_p {t : Nat} (e : ¬ sI t = -1) : ∃ j, t = j + 1 := by
  cases t with
  | zero => exact absurd rfl e
  | succ n => exact ⟨n, rfl⟩
theorem sI_le {s t : Nat} (hs : s ≤ 40) (ht : t ≤ 40) : sI s ≤ sI t ↔ s ≤ t := by
  rw [Int32.le_iff_toInt_le, sI_cl hs, sI_cl ht]; omega
theorem sI_i1 {t : Nat} (h : t ≤ 39) : sI t + Int32.ofInt 1 = sI (t + 1) := by
  cases t with
  | zero => decide
  | succ n => exact nI_i1 n
abbrev sM (N : Nat → Int32) (nl : Nat → Nat) (a : Nat) : Nat → Int32 | 0 => 0 | j + 1 => mNet N j (nI a) (nl j)
abbrev cntd (N : Nat → Int32) : Nat → Bool | 0 => true | j + 1 => decide (N (50 + 15 * j + 1) = 0)
abbrev bitS : Nat → Int32 | 0 => 0 | j + 1 => 1 <<< (nI j &&& 31)
abbrev exB (N O : Nat → Int32) (nl : Nat → Nat) (x y z i : Nat) : Int32 := O i + sM N nl i x + sM N nl i y + sM N nl i z
def mEx (N O : Nat → Int32) (nl : Nat → Nat) (na x y z : Nat) : Bool := decide (∀ i, i < na → (N (2 + 4 * i + 2) = 0 ∨ exB N O nl x y z i = 0))
def fnd (f : Nat → Option Int32) : Nat → Nat → Option Int32
  | 0, _ => none
  | n + 1, t => match f t with | some v => some v | none => fnd f n (t + 1)
theorem fnd_0 {f : Nat → Option Int32} {t : Nat} : fnd f 0 t = none := rfl
theorem fnd_n {f : Nat → Option Int32} {n t : Nat} (h : f t = none) : fnd f (n + 1) t = fnd f n (t + 1) := by rw [fnd, h]
theorem fnd_s {f : Nat → Option Int32} {n t : Nat} {v : Int32} (h : f t = some v) : fnd f (n + 1) t = some v := by rw [fnd, h]
def tG (N O : Nat → Int32) (nl : Nat → Nat) (na x y z : Nat) : Option Int32 := if (cntd N x && cntd N y && cntd N z && mEx N O nl na x y z) = true then some (bitS x ||| bitS y ||| bitS z) else none

set_option maxRecDepth 100000 in
set_option maxHeartbeats 4000000 in
theorem c_M_bit (w : vWd) (t : Nat) (ht : t ≤ 31) : Ct w mX8_bit 0 0 0 [.int (sI t)] ([]) (qE (some (.int (bitS t))) []) := by
  refine Ct.of (L := [(0, .int (sI t))]) (by decide) rfl rfl ?_
  refine V_iload_n dX8_bit_0 0 rfl ?_
  refine V_iconst (-1) dX8_bit_1 (by decide) ?_
  refine V_icmp_ne 9 dX8_bit_2 (by decide) (fun zc1 => ?_) (fun zc1 => ?_)
  · obtain ⟨j, rfl⟩ := sI_p zc1
    refine V_iconst 1 dX8_bit_9 (by decide) ?_
    refine V_iload_n dX8_bit_10 0 rfl ?_
    refine V_ishl dX8_bit_11 ?_
    exact V_iret dX8_bit_12 rfl (nb rfl) (nb rfl) ⟨rfl, rfl⟩
  · obtain rfl := sI_0 (by omega) zc1
    refine V_iconst 0 dX8_bit_5 (by decide) ?_
    refine V_goto 12 dX8_bit_6 (by decide) ?_
    exact V_iret dX8_bit_12 rfl (nb rfl) (nb rfl) ⟨rfl, rfl⟩

set_option maxRecDepth 100000 in
set_option maxHeartbeats 4000000 in
theorem e_M_isCounted (w : vWd) (a : Nat → Nat) (th : Int32) (Z : ZT) (sn gs ps : Nat) (X : Nat → Nat → Int32) (t : Nat) (ht : t ≤ 30) : Ct w mX8_isCounted 1 0 0 [.ref (a 0), .int (sI t)] (cG w a th Z sn gs ps X) (qE (some (.int (bi (cntd (X 11) t)))) (cG w a th Z sn gs ps X)) := by
  refine Ct.of (L := [(0, .ref (a 0)), (1, .int (sI t))]) (by decide) rfl rfl ?_
  refine V_iload_n dX8_isCounted_0 1 rfl ?_
  refine V_iconst (-1) dX8_isCounted_1 (by decide) ?_
  refine V_icmp_eq 14 dX8_isCounted_2 (by decide) (fun zc1 => ?_) (fun zc1 => ?_)
  · obtain rfl := sI_0 (by omega) zc1
    refine V_iconst 1 dX8_isCounted_14 (by decide) ?_
    refine V_goto 19 dX8_isCounted_15 (by decide) ?_
    exact V_zret dX8_isCounted_19 rfl rfl (nb rfl) (nb rfl) ⟨by clear w a th Z sn gs ps; grind [bi], rfl⟩
  · obtain ⟨j, rfl⟩ := sI_p zc1
    refine V_aload_n dX8_isCounted_5 0 rfl ?_
    refine V_iload_n dX8_isCounted_6 1 rfl ?_
    refine V_iconst 1 dX8_isCounted_7 (by decide) ?_
    refine V_selfR dX8_isCounted_8 lX8_167 (e_M_told w a th Z sn gs ps X j 1 (by omega)) rfl rfl 0 rfl rfl rfl rfl ?_
    refine V_if_ne 18 dX8_isCounted_11 (by decide) (fun zc2 => ?_) (fun zc2 => ?_)
    · refine V_iconst 0 dX8_isCounted_18 (by decide) ?_
      exact V_zret dX8_isCounted_19 rfl rfl (nb rfl) (nb rfl) ⟨by clear w a th Z sn gs ps; grind [bi], rfl⟩
    · refine V_iconst 1 dX8_isCounted_14 (by decide) ?_
      refine V_goto 19 dX8_isCounted_15 (by decide) ?_
      exact V_zret dX8_isCounted_19 rfl rfl (nb rfl) (nb rfl) ⟨by clear w a th Z sn gs ps; grind [bi], rfl⟩

set_option maxRecDepth 100000 in
set_option maxHeartbeats 4000000 in
theorem lp_M_explains (w : vWd) (a : Nat → Nat) (th : Int32) (Z : ZT) (sn gs ps : Nat) (X : Nat → Nat → Int32) (x y z : Nat) (na nj : Nat) (nl : Nat → Nat) (ac : Nat → Nat → Nat) (hN : okN (X 11) na nj nl ac) (hx : x ≤ nj) (hy : y ≤ nj) (hz : z ≤ nj) : ∀ (m : Nat) (k : Nat), (na + 1 ≤ k + m) → (k ≤ na) → (∀ i, i < k → (X 11 (2 + 4 * i + 2) = 0 ∨ exB (X 11) (X 25) nl x y z i = 0)) → V w mX8_explains (vc w 3 0 0 (qE (some (.int (bi (mEx (X 11) (X 25) nl na x y z)))) (cG w a th Z sn gs ps X))) 0 0 3 [(0, .ref (a 0)), (1, .int (sI x)), (2, .int (sI y)), (3, .int (sI z)), (4, .int (nI k))] [] (cG w a th Z sn gs ps X) := by
  intro m
  induction m with
  | zero =>
    intro k h1 h2 hg
    exact absurd h1 (by omega)
  | succ m ih =>
    intro k h1 h2 hg
    obtain ⟨hn0, hn1, hna, hnj, hnl, hac⟩ := id hN
    refine V_iload dX8_explains_3 4 rfl ?_
    refine V_aload_n dX8_explains_5 0 rfl ?_
    refine V_get dX8_explains_6 fX8_76 0 rfl rfl ?_
    refine V_iconst 0 dX8_explains_9 (by decide) ?_
    refine V_iald dX8_explains_10 2 rfl rfl 0 rfl (by omega) ?_
    refine V_casti (y := nI na) hn0 ?_
    refine V_icmp_ge_n k na 100 dX8_explains_11 (by decide) (by omega) (by omega) (fun zc1 => ?_) (fun zc1 => ?_)
    · refine V_iconst 1 dX8_explains_100 (by decide) ?_
      exact V_zret dX8_explains_101 rfl rfl (nb rfl) (nb rfl) ⟨by rw [mEx, decide_eq_true (fun i hi => hg i (by omega))]; rfl, rfl⟩
    · refine V_aload_n dX8_explains_14 0 rfl ?_
      refine V_iload dX8_explains_15 4 rfl ?_
      refine V_iconst 2 dX8_explains_17 (by decide) ?_
      refine V_selfR dX8_explains_18 lX8_163 (e_M_its w a th Z sn gs ps X k 2 (by omega)) rfl rfl 0 rfl rfl rfl rfl ?_
      refine V_if_ne 27 dX8_explains_21 (by decide) (fun zc2 => ?_) (fun zc2 => ?_)
      · have zt := zc2
        refine V_aload_n dX8_explains_27 0 rfl ?_
        refine V_get dX8_explains_28 fX8_106 0 rfl rfl ?_
        refine V_iload dX8_explains_31 4 rfl ?_
        refine V_iald dX8_explains_33 12 rfl rfl k rfl (by omega) ?_
        refine V_iload_n dX8_explains_34 1 rfl ?_
        refine V_iconst (-1) dX8_explains_35 (by decide) ?_
        refine V_icmp_ne 43 dX8_explains_36 (by decide) (fun zc3 => ?_) (fun zc3 => ?_)
        · have zxx := zc3
          obtain ⟨xj, rfl⟩ := sI_p zxx
          refine V_aload_n dX8_explains_43 0 rfl ?_
          refine V_iload_n dX8_explains_44 1 rfl ?_
          refine V_iload dX8_explains_45 4 rfl ?_
          refine V_selfR dX8_explains_47 lX8_179 (e_M_moved w a th Z sn gs ps X xj (nI k) na nj nl ac hN (by omega)) rfl rfl 0 rfl rfl rfl rfl ?_
          refine V_iadd dX8_explains_50 ?_
          refine V_iload_n dX8_explains_51 2 rfl ?_
          refine V_iconst (-1) dX8_explains_52 (by decide) ?_
          refine V_icmp_ne 60 dX8_explains_53 (by decide) (fun zc4 => ?_) (fun zc4 => ?_)
          · have zxy := zc4
            obtain ⟨yj, rfl⟩ := sI_p zxy
            refine V_aload_n dX8_explains_60 0 rfl ?_
            refine V_iload_n dX8_explains_61 2 rfl ?_
            refine V_iload dX8_explains_62 4 rfl ?_
            refine V_selfR dX8_explains_64 lX8_179 (e_M_moved w a th Z sn gs ps X yj (nI k) na nj nl ac hN (by omega)) rfl rfl 0 rfl rfl rfl rfl ?_
            refine V_iadd dX8_explains_67 ?_
            refine V_iload_n dX8_explains_68 3 rfl ?_
            refine V_iconst (-1) dX8_explains_69 (by decide) ?_
            refine V_icmp_ne 77 dX8_explains_70 (by decide) (fun zc5 => ?_) (fun zc5 => ?_)
            · have zxz := zc5
              obtain ⟨zj, rfl⟩ := sI_p zxz
              refine V_aload_n dX8_explains_77 0 rfl ?_
              refine V_iload_n dX8_explains_78 3 rfl ?_
              refine V_iload dX8_explains_79 4 rfl ?_
              refine V_selfR dX8_explains_81 lX8_179 (e_M_moved w a th Z sn gs ps X zj (nI k) na nj nl ac hN (by omega)) rfl rfl 0 rfl rfl rfl rfl ?_
              refine V_iadd dX8_explains_84 ?_
              refine V_istore dX8_explains_85 rfl (L' := [(0, .ref (a 0)), (1, .int (nI xj)), (2, .int (nI yj)), (3, .int (nI zj)), (4, .int (nI k)), (5, .int (((((X 25) k) + (mNet (X 11) xj (nI k) (nl xj))) + (mNet (X 11) yj (nI k) (nl yj))) + (mNet (X 11) zj (nI k) (nl zj))))]) rfl ?_
              refine V_iload dX8_explains_87 5 rfl ?_
              refine V_if_eq 94 dX8_explains_89 (by decide) (fun zc6 => ?_) (fun zc6 => ?_)
              · have zn := zc6
                refine V_iinc (nI (k + 1)) dX8_explains_94 4 rfl (nI_i1 k) rfl (L' := [(0, .ref (a 0)), (1, .int (nI xj)), (2, .int (nI yj)), (3, .int (nI zj)), (4, .int (nI (k + 1))), (5, .int (((((X 25) k) + (mNet (X 11) xj (nI k) (nl xj))) + (mNet (X 11) yj (nI k) (nl yj))) + (mNet (X 11) zj (nI k) (nl zj))))]) rfl ?_
                refine V_goto 3 dX8_explains_97 (by decide) ?_
                refine V_dropL (L' := [(0, .ref (a 0)), (1, .int (nI xj)), (2, .int (nI yj)), (3, .int (nI zj)), (4, .int (nI (k + 1)))]) (L'' := [(5, .int (((((X 25) k) + (mNet (X 11) xj (nI k) (nl xj))) + (mNet (X 11) yj (nI k) (nl yj))) + (mNet (X 11) zj (nI k) (nl zj))))]) rfl ?_
                refine ih (k + 1) (by omega) (by omega) (fun i hi => ?_)
                by_cases hik : i < k
                · exact hg i hik
                · obtain rfl : i = k := by omega
                  exact Or.inr zn
              · have zn := zc6
                refine V_iconst 0 dX8_explains_92 (by decide) ?_
                exact V_zret dX8_explains_93 rfl rfl (nb rfl) (nb rfl) ⟨by rw [mEx, decide_eq_false (fun hA => (hA k (by omega)).elim zt zn)]; rfl, rfl⟩
            · have zxz := zc5
              obtain rfl := sI_0 (by omega) zxz
              refine V_iconst 0 dX8_explains_73 (by decide) ?_
              refine V_goto 84 dX8_explains_74 (by decide) ?_
              refine V_iadd dX8_explains_84 ?_
              refine V_istore dX8_explains_85 rfl (L' := [(0, .ref (a 0)), (1, .int (nI xj)), (2, .int (nI yj)), (3, .int (-1)), (4, .int (nI k)), (5, .int (((((X 25) k) + (mNet (X 11) xj (nI k) (nl xj))) + (mNet (X 11) yj (nI k) (nl yj))) + 0))]) rfl ?_
              refine V_iload dX8_explains_87 5 rfl ?_
              refine V_if_eq 94 dX8_explains_89 (by decide) (fun zc7 => ?_) (fun zc7 => ?_)
              · have zn := zc7
                refine V_iinc (nI (k + 1)) dX8_explains_94 4 rfl (nI_i1 k) rfl (L' := [(0, .ref (a 0)), (1, .int (nI xj)), (2, .int (nI yj)), (3, .int (-1)), (4, .int (nI (k + 1))), (5, .int (((((X 25) k) + (mNet (X 11) xj (nI k) (nl xj))) + (mNet (X 11) yj (nI k) (nl yj))) + 0))]) rfl ?_
                refine V_goto 3 dX8_explains_97 (by decide) ?_
                refine V_dropL (L' := [(0, .ref (a 0)), (1, .int (nI xj)), (2, .int (nI yj)), (3, .int (-1)), (4, .int (nI (k + 1)))]) (L'' := [(5, .int (((((X 25) k) + (mNet (X 11) xj (nI k) (nl xj))) + (mNet (X 11) yj (nI k) (nl yj))) + 0))]) rfl ?_
                refine ih (k + 1) (by omega) (by omega) (fun i hi => ?_)
                by_cases hik : i < k
                · exact hg i hik
                · obtain rfl : i = k := by omega
                  exact Or.inr zn
              · have zn := zc7
                refine V_iconst 0 dX8_explains_92 (by decide) ?_
                exact V_zret dX8_explains_93 rfl rfl (nb rfl) (nb rfl) ⟨by rw [mEx, decide_eq_false (fun hA => (hA k (by omega)).elim zt zn)]; rfl, rfl⟩
          · have zxy := zc4
            obtain rfl := sI_0 (by omega) zxy
            refine V_iconst 0 dX8_explains_56 (by decide) ?_
            refine V_goto 67 dX8_explains_57 (by decide) ?_
            refine V_iadd dX8_explains_67 ?_
            refine V_iload_n dX8_explains_68 3 rfl ?_
            refine V_iconst (-1) dX8_explains_69 (by decide) ?_
            refine V_icmp_ne 77 dX8_explains_70 (by decide) (fun zc8 => ?_) (fun zc8 => ?_)
            · have zxz := zc8
              obtain ⟨zj, rfl⟩ := sI_p zxz
              refine V_aload_n dX8_explains_77 0 rfl ?_
              refine V_iload_n dX8_explains_78 3 rfl ?_
              refine V_iload dX8_explains_79 4 rfl ?_
              refine V_selfR dX8_explains_81 lX8_179 (e_M_moved w a th Z sn gs ps X zj (nI k) na nj nl ac hN (by omega)) rfl rfl 0 rfl rfl rfl rfl ?_
              refine V_iadd dX8_explains_84 ?_
              refine V_istore dX8_explains_85 rfl (L' := [(0, .ref (a 0)), (1, .int (nI xj)), (2, .int (-1)), (3, .int (nI zj)), (4, .int (nI k)), (5, .int (((((X 25) k) + (mNet (X 11) xj (nI k) (nl xj))) + 0) + (mNet (X 11) zj (nI k) (nl zj))))]) rfl ?_
              refine V_iload dX8_explains_87 5 rfl ?_
              refine V_if_eq 94 dX8_explains_89 (by decide) (fun zc9 => ?_) (fun zc9 => ?_)
              · have zn := zc9
                refine V_iinc (nI (k + 1)) dX8_explains_94 4 rfl (nI_i1 k) rfl (L' := [(0, .ref (a 0)), (1, .int (nI xj)), (2, .int (-1)), (3, .int (nI zj)), (4, .int (nI (k + 1))), (5, .int (((((X 25) k) + (mNet (X 11) xj (nI k) (nl xj))) + 0) + (mNet (X 11) zj (nI k) (nl zj))))]) rfl ?_
                refine V_goto 3 dX8_explains_97 (by decide) ?_
                refine V_dropL (L' := [(0, .ref (a 0)), (1, .int (nI xj)), (2, .int (-1)), (3, .int (nI zj)), (4, .int (nI (k + 1)))]) (L'' := [(5, .int (((((X 25) k) + (mNet (X 11) xj (nI k) (nl xj))) + 0) + (mNet (X 11) zj (nI k) (nl zj))))]) rfl ?_
                refine ih (k + 1) (by omega) (by omega) (fun i hi => ?_)
                by_cases hik : i < k
                · exact hg i hik
                · obtain rfl : i = k := by omega
                  exact Or.inr zn
              · have zn := zc9
                refine V_iconst 0 dX8_explains_92 (by decide) ?_
                exact V_zret dX8_explains_93 rfl rfl (nb rfl) (nb rfl) ⟨by rw [mEx, decide_eq_false (fun hA => (hA k (by omega)).elim zt zn)]; rfl, rfl⟩
            · have zxz := zc8
              obtain rfl := sI_0 (by omega) zxz
              refine V_iconst 0 dX8_explains_73 (by decide) ?_
              refine V_goto 84 dX8_explains_74 (by decide) ?_
              refine V_iadd dX8_explains_84 ?_
              refine V_istore dX8_explains_85 rfl (L' := [(0, .ref (a 0)), (1, .int (nI xj)), (2, .int (-1)), (3, .int (-1)), (4, .int (nI k)), (5, .int (((((X 25) k) + (mNet (X 11) xj (nI k) (nl xj))) + 0) + 0))]) rfl ?_
              refine V_iload dX8_explains_87 5 rfl ?_
              refine V_if_eq 94 dX8_explains_89 (by decide) (fun zc10 => ?_) (fun zc10 => ?_)
              · have zn := zc10
                refine V_iinc (nI (k + 1)) dX8_explains_94 4 rfl (nI_i1 k) rfl (L' := [(0, .ref (a 0)), (1, .int (nI xj)), (2, .int (-1)), (3, .int (-1)), (4, .int (nI (k + 1))), (5, .int (((((X 25) k) + (mNet (X 11) xj (nI k) (nl xj))) + 0) + 0))]) rfl ?_
                refine V_goto 3 dX8_explains_97 (by decide) ?_
                refine V_dropL (L' := [(0, .ref (a 0)), (1, .int (nI xj)), (2, .int (-1)), (3, .int (-1)), (4, .int (nI (k + 1)))]) (L'' := [(5, .int (((((X 25) k) + (mNet (X 11) xj (nI k) (nl xj))) + 0) + 0))]) rfl ?_
                refine ih (k + 1) (by omega) (by omega) (fun i hi => ?_)
                by_cases hik : i < k
                · exact hg i hik
                · obtain rfl : i = k := by omega
                  exact Or.inr zn
              · have zn := zc10
                refine V_iconst 0 dX8_explains_92 (by decide) ?_
                exact V_zret dX8_explains_93 rfl rfl (nb rfl) (nb rfl) ⟨by rw [mEx, decide_eq_false (fun hA => (hA k (by omega)).elim zt zn)]; rfl, rfl⟩
        · have zxx := zc3
          obtain rfl := sI_0 (by omega) zxx
          refine V_iconst 0 dX8_explains_39 (by decide) ?_
          refine V_goto 50 dX8_explains_40 (by decide) ?_
          refine V_iadd dX8_explains_50 ?_
          refine V_iload_n dX8_explains_51 2 rfl ?_
          refine V_iconst (-1) dX8_explains_52 (by decide) ?_
          refine V_icmp_ne 60 dX8_explains_53 (by decide) (fun zc11 => ?_) (fun zc11 => ?_)
          · have zxy := zc11
            obtain ⟨yj, rfl⟩ := sI_p zxy
            refine V_aload_n dX8_explains_60 0 rfl ?_
            refine V_iload_n dX8_explains_61 2 rfl ?_
            refine V_iload dX8_explains_62 4 rfl ?_
            refine V_selfR dX8_explains_64 lX8_179 (e_M_moved w a th Z sn gs ps X yj (nI k) na nj nl ac hN (by omega)) rfl rfl 0 rfl rfl rfl rfl ?_
            refine V_iadd dX8_explains_67 ?_
            refine V_iload_n dX8_explains_68 3 rfl ?_
            refine V_iconst (-1) dX8_explains_69 (by decide) ?_
            refine V_icmp_ne 77 dX8_explains_70 (by decide) (fun zc12 => ?_) (fun zc12 => ?_)
            · have zxz := zc12
              obtain ⟨zj, rfl⟩ := sI_p zxz
              refine V_aload_n dX8_explains_77 0 rfl ?_
              refine V_iload_n dX8_explains_78 3 rfl ?_
              refine V_iload dX8_explains_79 4 rfl ?_
              refine V_selfR dX8_explains_81 lX8_179 (e_M_moved w a th Z sn gs ps X zj (nI k) na nj nl ac hN (by omega)) rfl rfl 0 rfl rfl rfl rfl ?_
              refine V_iadd dX8_explains_84 ?_
              refine V_istore dX8_explains_85 rfl (L' := [(0, .ref (a 0)), (1, .int (-1)), (2, .int (nI yj)), (3, .int (nI zj)), (4, .int (nI k)), (5, .int (((((X 25) k) + 0) + (mNet (X 11) yj (nI k) (nl yj))) + (mNet (X 11) zj (nI k) (nl zj))))]) rfl ?_
              refine V_iload dX8_explains_87 5 rfl ?_
              refine V_if_eq 94 dX8_explains_89 (by decide) (fun zc13 => ?_) (fun zc13 => ?_)
              · have zn := zc13
                refine V_iinc (nI (k + 1)) dX8_explains_94 4 rfl (nI_i1 k) rfl (L' := [(0, .ref (a 0)), (1, .int (-1)), (2, .int (nI yj)), (3, .int (nI zj)), (4, .int (nI (k + 1))), (5, .int (((((X 25) k) + 0) + (mNet (X 11) yj (nI k) (nl yj))) + (mNet (X 11) zj (nI k) (nl zj))))]) rfl ?_
                refine V_goto 3 dX8_explains_97 (by decide) ?_
                refine V_dropL (L' := [(0, .ref (a 0)), (1, .int (-1)), (2, .int (nI yj)), (3, .int (nI zj)), (4, .int (nI (k + 1)))]) (L'' := [(5, .int (((((X 25) k) + 0) + (mNet (X 11) yj (nI k) (nl yj))) + (mNet (X 11) zj (nI k) (nl zj))))]) rfl ?_
                refine ih (k + 1) (by omega) (by omega) (fun i hi => ?_)
                by_cases hik : i < k
                · exact hg i hik
                · obtain rfl : i = k := by omega
                  exact Or.inr zn
              · have zn := zc13
                refine V_iconst 0 dX8_explains_92 (by decide) ?_
                exact V_zret dX8_explains_93 rfl rfl (nb rfl) (nb rfl) ⟨by rw [mEx, decide_eq_false (fun hA => (hA k (by omega)).elim zt zn)]; rfl, rfl⟩
            · have zxz := zc12
              obtain rfl := sI_0 (by omega) zxz
              refine V_iconst 0 dX8_explains_73 (by decide) ?_
              refine V_goto 84 dX8_explains_74 (by decide) ?_
              refine V_iadd dX8_explains_84 ?_
              refine V_istore dX8_explains_85 rfl (L' := [(0, .ref (a 0)), (1, .int (-1)), (2, .int (nI yj)), (3, .int (-1)), (4, .int (nI k)), (5, .int (((((X 25) k) + 0) + (mNet (X 11) yj (nI k) (nl yj))) + 0))]) rfl ?_
              refine V_iload dX8_explains_87 5 rfl ?_
              refine V_if_eq 94 dX8_explains_89 (by decide) (fun zc14 => ?_) (fun zc14 => ?_)
              · have zn := zc14
                refine V_iinc (nI (k + 1)) dX8_explains_94 4 rfl (nI_i1 k) rfl (L' := [(0, .ref (a 0)), (1, .int (-1)), (2, .int (nI yj)), (3, .int (-1)), (4, .int (nI (k + 1))), (5, .int (((((X 25) k) + 0) + (mNet (X 11) yj (nI k) (nl yj))) + 0))]) rfl ?_
                refine V_goto 3 dX8_explains_97 (by decide) ?_
                refine V_dropL (L' := [(0, .ref (a 0)), (1, .int (-1)), (2, .int (nI yj)), (3, .int (-1)), (4, .int (nI (k + 1)))]) (L'' := [(5, .int (((((X 25) k) + 0) + (mNet (X 11) yj (nI k) (nl yj))) + 0))]) rfl ?_
                refine ih (k + 1) (by omega) (by omega) (fun i hi => ?_)
                by_cases hik : i < k
                · exact hg i hik
                · obtain rfl : i = k := by omega
                  exact Or.inr zn
              · have zn := zc14
                refine V_iconst 0 dX8_explains_92 (by decide) ?_
                exact V_zret dX8_explains_93 rfl rfl (nb rfl) (nb rfl) ⟨by rw [mEx, decide_eq_false (fun hA => (hA k (by omega)).elim zt zn)]; rfl, rfl⟩
          · have zxy := zc11
            obtain rfl := sI_0 (by omega) zxy
            refine V_iconst 0 dX8_explains_56 (by decide) ?_
            refine V_goto 67 dX8_explains_57 (by decide) ?_
            refine V_iadd dX8_explains_67 ?_
            refine V_iload_n dX8_explains_68 3 rfl ?_
            refine V_iconst (-1) dX8_explains_69 (by decide) ?_
            refine V_icmp_ne 77 dX8_explains_70 (by decide) (fun zc15 => ?_) (fun zc15 => ?_)
            · have zxz := zc15
              obtain ⟨zj, rfl⟩ := sI_p zxz
              refine V_aload_n dX8_explains_77 0 rfl ?_
              refine V_iload_n dX8_explains_78 3 rfl ?_
              refine V_iload dX8_explains_79 4 rfl ?_
              refine V_selfR dX8_explains_81 lX8_179 (e_M_moved w a th Z sn gs ps X zj (nI k) na nj nl ac hN (by omega)) rfl rfl 0 rfl rfl rfl rfl ?_
              refine V_iadd dX8_explains_84 ?_
              refine V_istore dX8_explains_85 rfl (L' := [(0, .ref (a 0)), (1, .int (-1)), (2, .int (-1)), (3, .int (nI zj)), (4, .int (nI k)), (5, .int (((((X 25) k) + 0) + 0) + (mNet (X 11) zj (nI k) (nl zj))))]) rfl ?_
              refine V_iload dX8_explains_87 5 rfl ?_
              refine V_if_eq 94 dX8_explains_89 (by decide) (fun zc16 => ?_) (fun zc16 => ?_)
              · have zn := zc16
                refine V_iinc (nI (k + 1)) dX8_explains_94 4 rfl (nI_i1 k) rfl (L' := [(0, .ref (a 0)), (1, .int (-1)), (2, .int (-1)), (3, .int (nI zj)), (4, .int (nI (k + 1))), (5, .int (((((X 25) k) + 0) + 0) + (mNet (X 11) zj (nI k) (nl zj))))]) rfl ?_
                refine V_goto 3 dX8_explains_97 (by decide) ?_
                refine V_dropL (L' := [(0, .ref (a 0)), (1, .int (-1)), (2, .int (-1)), (3, .int (nI zj)), (4, .int (nI (k + 1)))]) (L'' := [(5, .int (((((X 25) k) + 0) + 0) + (mNet (X 11) zj (nI k) (nl zj))))]) rfl ?_
                refine ih (k + 1) (by omega) (by omega) (fun i hi => ?_)
                by_cases hik : i < k
                · exact hg i hik
                · obtain rfl : i = k := by omega
                  exact Or.inr zn
              · have zn := zc16
                refine V_iconst 0 dX8_explains_92 (by decide) ?_
                exact V_zret dX8_explains_93 rfl rfl (nb rfl) (nb rfl) ⟨by rw [mEx, decide_eq_false (fun hA => (hA k (by omega)).elim zt zn)]; rfl, rfl⟩
            · have zxz := zc15
              obtain rfl := sI_0 (by omega) zxz
              refine V_iconst 0 dX8_explains_73 (by decide) ?_
              refine V_goto 84 dX8_explains_74 (by decide) ?_
              refine V_iadd dX8_explains_84 ?_
              refine V_istore dX8_explains_85 rfl (L' := [(0, .ref (a 0)), (1, .int (-1)), (2, .int (-1)), (3, .int (-1)), (4, .int (nI k)), (5, .int (((((X 25) k) + 0) + 0) + 0))]) rfl ?_
              refine V_iload dX8_explains_87 5 rfl ?_
              refine V_if_eq 94 dX8_explains_89 (by decide) (fun zc17 => ?_) (fun zc17 => ?_)
              · have zn := zc17
                refine V_iinc (nI (k + 1)) dX8_explains_94 4 rfl (nI_i1 k) rfl (L' := [(0, .ref (a 0)), (1, .int (-1)), (2, .int (-1)), (3, .int (-1)), (4, .int (nI (k + 1))), (5, .int (((((X 25) k) + 0) + 0) + 0))]) rfl ?_
                refine V_goto 3 dX8_explains_97 (by decide) ?_
                refine V_dropL (L' := [(0, .ref (a 0)), (1, .int (-1)), (2, .int (-1)), (3, .int (-1)), (4, .int (nI (k + 1)))]) (L'' := [(5, .int (((((X 25) k) + 0) + 0) + 0))]) rfl ?_
                refine ih (k + 1) (by omega) (by omega) (fun i hi => ?_)
                by_cases hik : i < k
                · exact hg i hik
                · obtain rfl : i = k := by omega
                  exact Or.inr zn
              · have zn := zc17
                refine V_iconst 0 dX8_explains_92 (by decide) ?_
                exact V_zret dX8_explains_93 rfl rfl (nb rfl) (nb rfl) ⟨by rw [mEx, decide_eq_false (fun hA => (hA k (by omega)).elim zt zn)]; rfl, rfl⟩
      · have zt := zc2
        refine V_goto 94 dX8_explains_24 (by decide) ?_
        refine V_iinc (nI (k + 1)) dX8_explains_94 4 rfl (nI_i1 k) rfl (L' := [(0, .ref (a 0)), (1, .int (sI x)), (2, .int (sI y)), (3, .int (sI z)), (4, .int (nI (k + 1)))]) rfl ?_
        refine V_goto 3 dX8_explains_97 (by decide) ?_
        refine ih (k + 1) (by omega) (by omega) (fun i hi => ?_)
        by_cases hik : i < k
        · exact hg i hik
        · obtain rfl : i = k := by omega
          exact Or.inl zt

set_option maxRecDepth 100000 in
set_option maxHeartbeats 4000000 in
theorem e_M_explains (w : vWd) (a : Nat → Nat) (th : Int32) (Z : ZT) (sn gs ps : Nat) (X : Nat → Nat → Int32) (x y z : Nat) (na nj : Nat) (nl : Nat → Nat) (ac : Nat → Nat → Nat) (hN : okN (X 11) na nj nl ac) (hx : x ≤ nj) (hy : y ≤ nj) (hz : z ≤ nj) : Ct w mX8_explains 3 0 0 [.ref (a 0), .int (sI x), .int (sI y), .int (sI z)] (cG w a th Z sn gs ps X) (qE (some (.int (bi (mEx (X 11) (X 25) nl na x y z)))) (cG w a th Z sn gs ps X)) := by
  refine Ct.of (L := [(0, .ref (a 0)), (1, .int (sI x)), (2, .int (sI y)), (3, .int (sI z))]) (by decide) rfl rfl ?_
  refine V_iconst 0 dX8_explains_0 (by decide) ?_
  refine V_istore dX8_explains_1 rfl (L' := [(0, .ref (a 0)), (1, .int (sI x)), (2, .int (sI y)), (3, .int (sI z)), (4, .int 0)]) rfl ?_
  exact lp_M_explains w a th Z sn gs ps X x y z na nj nl ac hN hx hy hz (na + 1) 0 (by omega) (by omega) (fun i hi => absurd hi (by omega))
