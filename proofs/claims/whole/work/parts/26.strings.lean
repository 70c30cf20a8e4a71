/-! 26: the String constants: length() and charAt(int), the JDK's own code -/
def RJ0 : String := "java/lang/String"
def RJ1 : String := "java/lang/StringLatin1"
def RJ3 : String := "jdk/internal/util/Preconditions"
def yJ0_length : MethodName := ⟨RJ0, "length", "()I"⟩
def mJ0_length : vMet := (yJ0_length, prog_17_method_54_code, 1, some .int)
def yJ0_coder : MethodName := ⟨RJ0, "coder", "()B"⟩
def mJ0_coder : vMet := (yJ0_coder, prog_17_method_152_code, 1, some .byte)
def yJ0_isLatin1 : MethodName := ⟨RJ0, "isLatin1", "()Z"⟩
def mJ0_isLatin1 : vMet := (yJ0_isLatin1, prog_17_method_154_code, 1, some .boolean)
def yJ0_charAt : MethodName := ⟨RJ0, "charAt", "(I)C"⟩
def mJ0_charAt : vMet := (yJ0_charAt, prog_17_method_56_code, 2, some .char)
def yJ0_checkIndex : MethodName := ⟨RJ0, "checkIndex", "(II)V"⟩
def mJ0_checkIndex : vMet := (yJ0_checkIndex, prog_17_method_155_code, 2, none)
def yJ1_charAt : MethodName := ⟨RJ1, "charAt", "([BI)C"⟩
def mJ1_charAt : vMet := (yJ1_charAt, prog_18_method_2_code, 2, some .char)
def yJ3_checkIndex : MethodName := ⟨RJ3, "checkIndex", "(IILjava/util/function/BiFunction;)I"⟩
def mJ3_checkIndex : vMet := (yJ3_checkIndex, prog_24_method_11_code, 3, some .int)
theorem dJ0_length_0 : vdec mJ0_length 0 (.aload_n 0) 1 := by decide +kernel
theorem dJ0_length_1 : vdec mJ0_length 1 (.getfield 9) 3 := by decide +kernel
theorem dJ0_length_4 : vdec mJ0_length 4 (.arraylength) 1 := by decide +kernel
theorem dJ0_length_5 : vdec mJ0_length 5 (.aload_n 0) 1 := by decide +kernel
theorem dJ0_length_6 : vdec mJ0_length 6 (.invokevirtual 335) 3 := by decide +kernel
theorem dJ0_length_9 : vdec mJ0_length 9 (.ishr) 1 := by decide +kernel
theorem dJ0_length_10 : vdec mJ0_length 10 (.ireturn) 1 := by decide +kernel
theorem dJ0_coder_0 : vdec mJ0_coder 0 (.getstatic 38) 3 := by decide +kernel
theorem dJ0_coder_3 : vdec mJ0_coder 3 (.ifCond .eq 10) 3 := by decide +kernel
theorem dJ0_coder_6 : vdec mJ0_coder 6 (.aload_n 0) 1 := by decide +kernel
theorem dJ0_coder_7 : vdec mJ0_coder 7 (.getfield 15) 3 := by decide +kernel
theorem dJ0_coder_10 : vdec mJ0_coder 10 (.goto 4) 3 := by decide +kernel
theorem dJ0_coder_14 : vdec mJ0_coder 14 (.ireturn) 1 := by decide +kernel
theorem dJ0_isLatin1_0 : vdec mJ0_isLatin1 0 (.getstatic 38) 3 := by decide +kernel
theorem dJ0_isLatin1_3 : vdec mJ0_isLatin1 3 (.ifCond .eq 14) 3 := by decide +kernel
theorem dJ0_isLatin1_6 : vdec mJ0_isLatin1 6 (.aload_n 0) 1 := by decide +kernel
theorem dJ0_isLatin1_7 : vdec mJ0_isLatin1 7 (.getfield 15) 3 := by decide +kernel
theorem dJ0_isLatin1_10 : vdec mJ0_isLatin1 10 (.ifCond .ne 7) 3 := by decide +kernel
theorem dJ0_isLatin1_13 : vdec mJ0_isLatin1 13 (.iconst 1) 1 := by decide +kernel
theorem dJ0_isLatin1_14 : vdec mJ0_isLatin1 14 (.goto 4) 3 := by decide +kernel
theorem dJ0_isLatin1_18 : vdec mJ0_isLatin1 18 (.ireturn) 1 := by decide +kernel
theorem dJ0_charAt_0 : vdec mJ0_charAt 0 (.aload_n 0) 1 := by decide +kernel
theorem dJ0_charAt_1 : vdec mJ0_charAt 1 (.invokevirtual 492) 3 := by decide +kernel
theorem dJ0_charAt_4 : vdec mJ0_charAt 4 (.ifCond .eq 12) 3 := by decide +kernel
theorem dJ0_charAt_7 : vdec mJ0_charAt 7 (.aload_n 0) 1 := by decide +kernel
theorem dJ0_charAt_8 : vdec mJ0_charAt 8 (.getfield 9) 3 := by decide +kernel
theorem dJ0_charAt_11 : vdec mJ0_charAt 11 (.iload_n 1) 1 := by decide +kernel
theorem dJ0_charAt_12 : vdec mJ0_charAt 12 (.invokestatic 495) 3 := by decide +kernel
theorem dJ0_charAt_15 : vdec mJ0_charAt 15 (.ireturn) 1 := by decide +kernel
theorem dJ1_charAt_0 : vdec mJ1_charAt 0 (.iload_n 1) 1 := by decide +kernel
theorem dJ1_charAt_1 : vdec mJ1_charAt 1 (.aload_n 0) 1 := by decide +kernel
theorem dJ1_charAt_2 : vdec mJ1_charAt 2 (.arraylength) 1 := by decide +kernel
theorem dJ1_charAt_3 : vdec mJ1_charAt 3 (.invokestatic 9) 3 := by decide +kernel
theorem dJ1_charAt_6 : vdec mJ1_charAt 6 (.aload_n 0) 1 := by decide +kernel
theorem dJ1_charAt_7 : vdec mJ1_charAt 7 (.iload_n 1) 1 := by decide +kernel
theorem dJ1_charAt_8 : vdec mJ1_charAt 8 (.baload) 1 := by decide +kernel
theorem dJ1_charAt_9 : vdec mJ1_charAt 9 (.sipush 255) 3 := by decide +kernel
theorem dJ1_charAt_12 : vdec mJ1_charAt 12 (.iand) 1 := by decide +kernel
theorem dJ1_charAt_13 : vdec mJ1_charAt 13 (.i2c) 1 := by decide +kernel
theorem dJ1_charAt_14 : vdec mJ1_charAt 14 (.ireturn) 1 := by decide +kernel
theorem dJ0_checkIndex_0 : vdec mJ0_checkIndex 0 (.iload_n 0) 1 := by decide +kernel
theorem dJ0_checkIndex_1 : vdec mJ0_checkIndex 1 (.iload_n 1) 1 := by decide +kernel
theorem dJ0_checkIndex_2 : vdec mJ0_checkIndex 2 (.getstatic 1053) 3 := by decide +kernel
theorem dJ0_checkIndex_5 : vdec mJ0_checkIndex 5 (.invokestatic 1059) 3 := by decide +kernel
theorem dJ0_checkIndex_8 : vdec mJ0_checkIndex 8 (.pop) 1 := by decide +kernel
theorem dJ0_checkIndex_9 : vdec mJ0_checkIndex 9 (.return_) 1 := by decide +kernel
theorem dJ3_checkIndex_0 : vdec mJ3_checkIndex 0 (.iload_n 0) 1 := by decide +kernel
theorem dJ3_checkIndex_1 : vdec mJ3_checkIndex 1 (.ifCond .lt 8) 3 := by decide +kernel
theorem dJ3_checkIndex_4 : vdec mJ3_checkIndex 4 (.iload_n 0) 1 := by decide +kernel
theorem dJ3_checkIndex_5 : vdec mJ3_checkIndex 5 (.iload_n 1) 1 := by decide +kernel
theorem dJ3_checkIndex_6 : vdec mJ3_checkIndex 6 (.if_icmp .lt 10) 3 := by decide +kernel
theorem dJ3_checkIndex_16 : vdec mJ3_checkIndex 16 (.iload_n 0) 1 := by decide +kernel
theorem dJ3_checkIndex_17 : vdec mJ3_checkIndex 17 (.ireturn) 1 := by decide +kernel
theorem lJ0_335 : vLk RJ0 335 mJ0_coder 0 := ⟨TT_at 355 (by decide +kernel) rfl, TT_at 356 (by decide +kernel) rfl, TT_at 357 (by decide +kernel) rfl, TT_at 82 (by decide +kernel) rfl, TT_at 358 (by decide +kernel) rfl, by decide +kernel⟩
theorem lJ0_492 : vLk RJ0 492 mJ0_isLatin1 0 := ⟨TT_at 365 (by decide +kernel) rfl, TT_at 366 (by decide +kernel) rfl, TT_at 367 (by decide +kernel) rfl, TT_at 82 (by decide +kernel) rfl, TT_at 368 (by decide +kernel) rfl, by decide +kernel⟩
theorem lJ0_495 : vLs RJ0 495 mJ1_charAt 2 := ⟨TT_at 369 (by decide +kernel) rfl, TT_at 370 (by decide +kernel) rfl, TT_at 83 (by decide +kernel) rfl, TT_at 371 (by decide +kernel) rfl, by decide +kernel⟩
theorem lJ1_9 : vLs RJ1 9 mJ0_checkIndex 2 := ⟨TT_at 372 (by decide +kernel) rfl, TT_at 373 (by decide +kernel) rfl, TT_at 82 (by decide +kernel) rfl, TT_at 374 (by decide +kernel) rfl, by decide +kernel⟩
theorem lJ0_1059 : vLs RJ0 1059 mJ3_checkIndex 3 := ⟨TT_at 377 (by decide +kernel) rfl, TT_at 378 (by decide +kernel) rfl, TT_at 84 (by decide +kernel) rfl, TT_at 379 (by decide +kernel) rfl, by decide +kernel⟩
theorem lJX4_121 : vLk RX4 121 mJ0_length 0 := ⟨TT_at 351 (by decide +kernel) rfl, TT_at 352 (by decide +kernel) rfl, TT_at 353 (by decide +kernel) rfl, TT_at 82 (by decide +kernel) rfl, TT_at 354 (by decide +kernel) rfl, by decide +kernel⟩
theorem lJX4_130 : vLk RX4 130 mJ0_charAt 1 := ⟨TT_at 361 (by decide +kernel) rfl, TT_at 362 (by decide +kernel) rfl, TT_at 363 (by decide +kernel) rfl, TT_at 82 (by decide +kernel) rfl, TT_at 364 (by decide +kernel) rfl, by decide +kernel⟩
theorem fJ0_38 : Cond.fieldLink RJ0 38 "java/lang/String" "COMPACT_STRINGS" "Z" ∈ TT := TT_at 359 (by decide +kernel) rfl
theorem fJ0_9 : Cond.fieldLink RJ0 9 "java/lang/String" "value" "[B" ∈ TT := TT_at 1337 (by decide +kernel) rfl
theorem fJ0_15 : Cond.fieldLink RJ0 15 "java/lang/String" "coder" "B" ∈ TT := TT_at 1338 (by decide +kernel) rfl
theorem fJ0_1053 : Cond.fieldLink RJ0 1053 "jdk/internal/util/Preconditions" "SIOOBE_FORMATTER" "Ljava/util/function/BiFunction;" ∈ TT := TT_at 375 (by decide +kernel) rfl
section VS
variable {w : vWd} {M : vMet} {C : vCtx} {k n pc : Nat} {L : List (Nat × Value)} {st : List Value} {ws : va_W} {idx i : Nat}
theorem V_gsC (hd : vdec M pc (.getstatic idx) 3) (hk : Cond.fieldLink M.1.cls idx "java/lang/String" "COMPACT_STRINGS" "Z" ∈ TT) (h : V w M C k n (pc + 3) L (.int 1 :: st) ws) : V w M C k n pc L st ws :=
  fun p e s m args below meth c A H locs ls o E hP hD hS hl => va_gets o.1 o.2.1 o.2.2.2.2.2.2.2.2.1.2.2.2.1 hS o.2.2.2.2.1 (o.2.2.2.2.2.1 _ hk) (fun x hx => hx) hd (h p e s m args below meth c A H locs ls o E hP hD hS hl)
theorem V_gsQ (hd : vdec M pc (.getstatic idx) 3) (hk : Cond.fieldLink M.1.cls idx "jdk/internal/util/Preconditions" "SIOOBE_FORMATTER" "Ljava/util/function/BiFunction;" ∈ TT) (h0 : V w M C k n (pc + 3) L (.null :: st) ws) (h1 : ∀ t, V w M C k n (pc + 3) L (.ref t :: st) ws) : V w M C k n pc L st ws :=
  fun p e s m args below meth c A H locs ls o E hP hD hS hl => o.2.2.2.2.2.2.2.2.1.2.2.2.2.1.elim (fun z => va_gets o.1 o.2.1 z hS o.2.2.2.2.1 (o.2.2.2.2.2.1 _ hk) (fun x hx => hx) hd (h0 p e s m args below meth c A H locs ls o E hP hD hS hl)) (fun ⟨t, z⟩ => va_gets o.1 o.2.1 z hS o.2.2.2.2.1 (o.2.2.2.2.2.1 _ hk) (fun x hx => hx) hd (h1 t p e s m args below meth c A H locs ls o E hP hD hS hl))
theorem V_gtV (hi : i < 8) (hd : vdec M pc (.getfield idx) 3) (hk : Cond.fieldLink M.1.cls idx "java/lang/String" "value" "[B" ∈ TT) (h : V w M C k n (pc + 3) L (.ref (w.2.2.2 i) :: st) ws) : V w M C k n pc L (.ref (w.2.2.1 i) :: st) ws :=
  fun p e s m args below meth c A H locs ls o E hP hD hS hl => vk_getf o.1 o.2.1 (o.2.2.2.2.2.2.2.2.1.2.2.1.1 i hi).2.2.1 hS o.2.2.2.2.1 (o.2.2.2.2.2.1 _ hk) (fun x hx => hx) hd (h p e s m args below meth c A H locs ls o E hP hD hS hl)
theorem V_gtC (hi : i < 8) (hd : vdec M pc (.getfield idx) 3) (hk : Cond.fieldLink M.1.cls idx "java/lang/String" "coder" "B" ∈ TT) (h : V w M C k n (pc + 3) L (.int 0 :: st) ws) : V w M C k n pc L (.ref (w.2.2.1 i) :: st) ws :=
  fun p e s m args below meth c A H locs ls o E hP hD hS hl => vk_getf o.1 o.2.1 (o.2.2.2.2.2.2.2.2.1.2.2.1.1 i hi).2.1 hS o.2.2.2.2.1 (o.2.2.2.2.2.1 _ hk) (fun x hx => hx) hd (h p e s m args below meth c A H locs ls o E hP hD hS hl)
theorem V_alenS (hi : i < 8) (hd : vdec M pc .arraylength 1) (h : V w M C k n (pc + 1) L (.int (nI (vLen.getD i 0)) :: st) ws) : V w M C k n pc L (.ref (w.2.2.2 i) :: st) ws :=
  fun p e s m args below meth c A H locs ls o E hP hD hS hl => va_tlen o.1 o.2.1 (o.2.2.2.2.2.2.2.2.1.2.2.1.1 i hi).2.2.2 hS rfl hd (h p e s m args below meth c A H locs ls o E hP hD hS hl)
theorem V_baldS {j : Nat} (hi : i < 8) (hd : vdec M pc .baload 1) (hj : j < vLen.getD i 0) (hl8 : vLen.getD i 0 ≤ 8) (h : V w M C k n (pc + 1) L (.int ((vByt.getD i []).getD j 0) :: st) ws) : V w M C k n pc L (.int (nI j) :: .ref (w.2.2.2 i) :: st) ws :=
  fun p e s m args below meth c A H locs ls o E hP hD hS hl => va_tb o.1 o.2.1 (o.2.2.2.2.2.2.2.2.1.2.2.1.1 i hi).2.2.2 hS (vp_in_nI hj (by omega)) (show Value.int ((vByt.getD i []).getD (nI j).toNatClampNeg 0) = .int ((vByt.getD i []).getD j 0) by rw [nI_clamp (by omega)]) hd (h p e s m args below meth c A H locs ls o E hP hD hS hl)
theorem V_i2c {x : Int32} (hd : vdec M pc (.i2c) 1) (h : V w M C k n (pc + 1) L (.int (x.toUInt32 % 65536).toInt32 :: st) ws) : V w M C k n pc L (.int x :: st) ws :=
  fun p e s m args below meth c A H locs ls o E hP hD hS hl => lv_i2c o.1 o.2.1 hd rfl (h p e s m args below meth c A H locs ls o E hP hD hS hl)
variable {M' : vMet} {na d : Nat} {As rest : List Value} {v : Option Value}
theorem V_virS (hi : i < 8) (hd : vdec M pc (.invokevirtual idx) 3) (hk : vLk M.1.cls idx M' na) (hcl : M'.1.cls = "java/lang/String") (hC : Ct w M' d 0 0 (.ref (w.2.2.1 i) :: As) [] (qE v [])) (hna : As.length = na) (hst : st = As.reverse ++ .ref (w.2.2.1 i) :: rest) (hR : vchk C.1 d M'.2.2.1 k n rest = true) (h : V w M C k n (pc + 3) L (v.toList ++ rest) ws) : V w M C k n pc L st ws := by
  intro p e s m args below meth c A H locs ls o E hP hD hS hlv
  subst hst
  obtain ⟨l1, l2, l3, l4, l5, l6⟩ := hk
  obtain ⟨hx, hb, hr, hml, hown, hts, hlocks, hK, hX, hA, hnm⟩ := id o
  have hD' : va_D A ([] ++ ws) := hD
  have hP' : va_P (vD w) vwCl ([] ++ ws) H := hP
  have hFc := v_free hD' hS hA
  have hrecv := vk_recv hX.2.2.1 hi hS
  rw [← hcl] at hrecv
  refine v_call (va_runV (C := M'.1.cls) (As := As) (rest := rest) ⟨hx, hb, hml, hown, hts⟩ (hC H.size) ⟨v_callB hts l1 l4 l5 l6 (vchk_of hR).1, hts _ l2, hts _ l3⟩ ⟨v_blind, hrecv, v_pre hK hX hA hP' hD' hS⟩ rfl hna hlv.1 rfl (lv_room (vchk_of hR).2.2) hd (vchk_of hR).2.1) hS (fun q _ h => hFc q h) hFc ?_
  intro r w1 H1 locs1 hq hP1 hD1 hk1 hS1
  obtain ⟨j1, j2⟩ := v_join hP' hD' hk1 hFc hP1 hD1
  obtain ⟨rfl, rfl⟩ := hq
  exact h p e s m args below meth c A H1 locs1 ls o E j1 j2 hS1 hlv
end VS

theorem s_len : ∀ i, i < 8 → nI (vLen.getD i 0) >>> ((0 : Int32) &&& 31) = nI (vLen.getD i 0) := by decide +kernel
def sch (i j : Nat) : Int32 := (vByt.getD i []).getD j 0
theorem s_l8 : ∀ i, i < 8 → vLen.getD i 0 ≤ 8 := by decide +kernel
theorem s_ch8 : ∀ i, i < 8 → ∀ j, j < vLen.getD i 0 → (((vByt.getD i []).getD j 0 &&& 255).toUInt32 % 65536).toInt32 = sch i j ∧ narrow .char (.int (sch i j)) = .int (sch i j) := by decide +kernel
theorem c_S_coder (w : vWd) (i : Nat) (hi : i < 8) : Ct w mJ0_coder 0 0 0 [.ref (w.2.2.1 i)] [] (qE (some (.int 0)) []) := by
  refine Ct.of (L := [(0, .ref (w.2.2.1 i))]) (by decide) rfl rfl ?_
  refine V_gsC dJ0_coder_0 fJ0_38 ?_
  refine V_if_eq_f 13 dJ0_coder_3 (by decide) (by decide) ?_
  refine V_aload_n dJ0_coder_6 0 rfl ?_
  refine V_gtC hi dJ0_coder_7 fJ0_15 ?_
  refine V_goto 14 dJ0_coder_10 (by decide) ?_
  exact V_zret dJ0_coder_14 rfl rfl (nb rfl) (nb rfl) ⟨rfl, rfl⟩
theorem c_S_length (w : vWd) (i : Nat) (hi : i < 8) : Ct w mJ0_length 1 0 0 [.ref (w.2.2.1 i)] [] (qE (some (.int (nI (vLen.getD i 0)))) []) := by
  refine Ct.of (L := [(0, .ref (w.2.2.1 i))]) (by decide) rfl rfl ?_
  refine V_aload_n dJ0_length_0 0 rfl ?_
  refine V_gtV hi dJ0_length_1 fJ0_9 ?_
  refine V_alenS hi dJ0_length_4 ?_
  refine V_aload_n dJ0_length_5 0 rfl ?_
  refine V_virS hi dJ0_length_6 lJ0_335 rfl (c_S_coder w i hi) rfl rfl rfl ?_
  refine V_ishr dJ0_length_9 ?_
  refine V_casti (s_len i hi) ?_
  exact V_iret dJ0_length_10 rfl (nb rfl) (nb rfl) ⟨rfl, rfl⟩
theorem c_S_isLatin1 (w : vWd) (i : Nat) (hi : i < 8) : Ct w mJ0_isLatin1 0 0 0 [.ref (w.2.2.1 i)] [] (qE (some (.int 1)) []) := by
  refine Ct.of (L := [(0, .ref (w.2.2.1 i))]) (by decide) rfl rfl ?_
  refine V_gsC dJ0_isLatin1_0 fJ0_38 ?_
  refine V_if_eq_f 17 dJ0_isLatin1_3 (by decide) (by decide) ?_
  refine V_aload_n dJ0_isLatin1_6 0 rfl ?_
  refine V_gtC hi dJ0_isLatin1_7 fJ0_15 ?_
  refine V_if_ne_f 17 dJ0_isLatin1_10 (by decide) (by decide) ?_
  refine V_iconst 1 dJ0_isLatin1_13 (by decide) ?_
  refine V_goto 18 dJ0_isLatin1_14 (by decide) ?_
  exact V_zret dJ0_isLatin1_18 rfl rfl (nb rfl) (nb rfl) ⟨rfl, rfl⟩

theorem c_S_chk0 (w : vWd) (x y : Nat) (hx : x < y) (hy : y < 2147483648) : Ct w mJ3_checkIndex 0 0 0 [.int (nI x), .int (nI y), .null] [] (qE (some (.int (nI x))) []) := by
  refine Ct.of (L := [(0, .int (nI x)), (1, .int (nI y)), (2, .null)]) (by decide) rfl rfl ?_
  refine V_iload_n dJ3_checkIndex_0 0 rfl ?_
  refine V_if_lt_nf x 9 dJ3_checkIndex_1 (by decide) (by omega) ?_
  refine V_iload_n dJ3_checkIndex_4 0 rfl ?_
  refine V_iload_n dJ3_checkIndex_5 1 rfl ?_
  refine V_icmp_lt_n x y 16 dJ3_checkIndex_6 (by decide) (by omega) (by omega) (fun zc1 => ?_) (fun zc1 => absurd zc1 (by omega))
  refine V_iload_n dJ3_checkIndex_16 0 rfl ?_
  exact V_iret dJ3_checkIndex_17 rfl (nb rfl) (nb rfl) ⟨rfl, rfl⟩
theorem c_S_chk1 (w : vWd) (x y : Nat) (hx : x < y) (hy : y < 2147483648) (t : Nat) : Ct w mJ3_checkIndex 0 0 0 [.int (nI x), .int (nI y), .ref t] [] (qE (some (.int (nI x))) []) := by
  refine Ct.of (L := [(0, .int (nI x)), (1, .int (nI y)), (2, .ref t)]) (by decide) rfl rfl ?_
  refine V_iload_n dJ3_checkIndex_0 0 rfl ?_
  refine V_if_lt_nf x 9 dJ3_checkIndex_1 (by decide) (by omega) ?_
  refine V_iload_n dJ3_checkIndex_4 0 rfl ?_
  refine V_iload_n dJ3_checkIndex_5 1 rfl ?_
  refine V_icmp_lt_n x y 16 dJ3_checkIndex_6 (by decide) (by omega) (by omega) (fun zc1 => ?_) (fun zc1 => absurd zc1 (by omega))
  refine V_iload_n dJ3_checkIndex_16 0 rfl ?_
  exact V_iret dJ3_checkIndex_17 rfl (nb rfl) (nb rfl) ⟨rfl, rfl⟩
theorem c_S_check (w : vWd) (x y : Nat) (hx : x < y) (hy : y < 2147483648) : Ct w mJ0_checkIndex 1 0 0 [.int (nI x), .int (nI y)] [] (qE none []) := by
  refine Ct.of (L := [(0, .int (nI x)), (1, .int (nI y))]) (by decide) rfl rfl ?_
  refine V_iload_n dJ0_checkIndex_0 0 rfl ?_
  refine V_iload_n dJ0_checkIndex_1 1 rfl ?_
  refine V_gsQ dJ0_checkIndex_2 fJ0_1053 ?_ (fun t => ?_)
  · refine V_purS dJ0_checkIndex_5 lJ0_1059 (c_S_chk0 w x y hx hy) rfl rfl rfl ?_
    refine V_pop dJ0_checkIndex_8 rfl ?_
    exact V_vret dJ0_checkIndex_9 rfl (nb rfl) (nb rfl) ⟨rfl, rfl⟩
  · refine V_purS dJ0_checkIndex_5 lJ0_1059 (c_S_chk1 w x y hx hy t) rfl rfl rfl ?_
    refine V_pop dJ0_checkIndex_8 rfl ?_
    exact V_vret dJ0_checkIndex_9 rfl (nb rfl) (nb rfl) ⟨rfl, rfl⟩
theorem c_S_latAt (w : vWd) (i j : Nat) (hi : i < 8) (hj : j < vLen.getD i 0) : Ct w mJ1_charAt 2 0 0 [.ref (w.2.2.2 i), .int (nI j)] [] (qE (some (.int (sch i j))) []) := by
  have h8 := s_l8 i hi
  refine Ct.of (L := [(0, .ref (w.2.2.2 i)), (1, .int (nI j))]) (by decide) rfl rfl ?_
  refine V_iload_n dJ1_charAt_0 1 rfl ?_
  refine V_aload_n dJ1_charAt_1 0 rfl ?_
  refine V_alenS hi dJ1_charAt_2 ?_
  refine V_purS dJ1_charAt_3 lJ1_9 (c_S_check w j (vLen.getD i 0) hj (by omega)) rfl rfl rfl ?_
  refine V_aload_n dJ1_charAt_6 0 rfl ?_
  refine V_iload_n dJ1_charAt_7 1 rfl ?_
  refine V_baldS hi dJ1_charAt_8 hj h8 ?_
  refine V_sipush 255 dJ1_charAt_9 (by decide) ?_
  refine V_iand dJ1_charAt_12 ?_
  refine V_i2c dJ1_charAt_13 ?_
  refine V_casti (s_ch8 i hi j hj).1 ?_
  exact V_zret dJ1_charAt_14 rfl (s_ch8 i hi j hj).2 (nb rfl) (nb rfl) ⟨rfl, rfl⟩
theorem c_S_charAt (w : vWd) (i j : Nat) (hi : i < 8) (hj : j < vLen.getD i 0) : Ct w mJ0_charAt 3 0 0 [.ref (w.2.2.1 i), .int (nI j)] [] (qE (some (.int (sch i j))) []) := by
  refine Ct.of (L := [(0, .ref (w.2.2.1 i)), (1, .int (nI j))]) (by decide) rfl rfl ?_
  refine V_aload_n dJ0_charAt_0 0 rfl ?_
  refine V_virS hi dJ0_charAt_1 lJ0_492 rfl (c_S_isLatin1 w i hi) rfl rfl rfl ?_
  refine V_if_eq_f 16 dJ0_charAt_4 (by decide) (by decide) ?_
  refine V_aload_n dJ0_charAt_7 0 rfl ?_
  refine V_gtV hi dJ0_charAt_8 fJ0_9 ?_
  refine V_iload_n dJ0_charAt_11 1 rfl ?_
  refine V_purS dJ0_charAt_12 lJ0_495 (c_S_latAt w i j hi hj) rfl rfl rfl ?_
  exact V_zret dJ0_charAt_15 rfl (s_ch8 i hi j hj).2 (nb rfl) (nb rfl) ⟨rfl, rfl⟩
