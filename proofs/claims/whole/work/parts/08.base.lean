/-! 08: rows for numbers that are known as naturals, short rows for calls, Math -/
theorem nb {a b : Nat} (h : Nat.ble a b = true) : a ≤ b := Nat.le_of_ble_eq_true h
def uX {α : Type} (X : Nat → α) (k : Nat) (f : α) : Nat → α := fun j => if j = k then f else X j
theorem uX_s {α : Type} {X : Nat → α} {k : Nat} {f : α} : uX X k f k = f := if_pos rfl
theorem uX_n {α : Type} {X : Nat → α} {k j : Nat} {f : α} (h : j ≠ k) : uX X k f j = X j := if_neg h
theorem upd_s {X : Nat → Int32} {k : Nat} {f : Int32} : upd X k f k = f := if_pos rfl
theorem upd_n {X : Nat → Int32} {k j : Nat} {f : Int32} (h : j ≠ k) : upd X k f j = X j := if_neg h
theorem nI_i1 (k : Nat) : nI k + Int32.ofInt 1 = nI (k + 1) := nI_1 k
def vchk (R : Room) (d nL k n : Nat) (rest : List Value) : Bool := Nat.ble (d + 1) R.frames && (Nat.ble (19 + nL + 64 * d) R.locals && (Nat.ble k R.cells && (Nat.ble n R.slots && Nat.ble (rest.map fun v => v.category).sum 8)))
theorem vchk_of {R : Room} {d nL k n : Nat} {rest : List Value} (h : vchk R d nL k n rest = true) : (d + 1 ≤ R.frames ∧ 19 + nL + 64 * d ≤ R.locals) ∧ (k ≤ R.cells ∧ n ≤ R.slots) ∧ (rest.map fun v => v.category).sum ≤ 8 := by
  unfold vchk at h
  simp only [Bool.and_eq_true] at h
  exact ⟨⟨nb h.1, nb h.2.1⟩, ⟨nb h.2.2.1, nb h.2.2.2.1⟩, nb h.2.2.2.2⟩
section VB
variable {w : vWd} {M : vMet} {C : vCtx} {k n pc : Nat} {L : List (Nat × Value)} {st : List Value} {ws : va_W}
theorem V_casti {x y : Int32} (e : x = y) (h : V w M C k n pc L (.int y :: st) ws) : V w M C k n pc L (.int x :: st) ws := e ▸ h
theorem V_castl {x y : Int64} (e : x = y) (h : V w M C k n pc L (.long y :: st) ws) : V w M C k n pc L (.long x :: st) ws := e ▸ h
theorem V_castv {x y : Value} (e : x = y) (h : V w M C k n pc L (y :: st) ws) : V w M C k n pc L (x :: st) ws := e ▸ h
theorem V_ws {ws' : va_W} (e : ws = ws') (h : V w M C k n pc L st ws') : V w M C k n pc L st ws := e ▸ h
theorem V_L {L' : List (Nat × Value)} (e : L = L') (h : V w M C k n pc L' st ws) : V w M C k n pc L st ws := e ▸ h
theorem V_icmp_eq_n {off : Int} (a b tgt : Nat) (hd : vdec M pc (.if_icmp .eq off) 3) (ht : (pc : Int) + off = (tgt : Int)) (ha : a < 2147483648) (hb : b < 2147483648) (kt : a = b → V w M C k n tgt L st ws) (kf : a ≠ b → V w M C k n (pc + 3) L st ws) : V w M C k n pc L (.int (nI b) :: .int (nI a) :: st) ws := V_icmp_eq tgt hd ht (fun q => kt ((nI_eq ha hb).mp q)) (fun q => kf (fun z => q ((nI_eq ha hb).mpr z)))
theorem V_icmp_ne_n {off : Int} (a b tgt : Nat) (hd : vdec M pc (.if_icmp .ne off) 3) (ht : (pc : Int) + off = (tgt : Int)) (ha : a < 2147483648) (hb : b < 2147483648) (kt : a ≠ b → V w M C k n tgt L st ws) (kf : a = b → V w M C k n (pc + 3) L st ws) : V w M C k n pc L (.int (nI b) :: .int (nI a) :: st) ws := V_icmp_ne tgt hd ht (fun q => kt (fun z => q ((nI_eq ha hb).mpr z))) (fun q => kf ((nI_eq ha hb).mp q))
theorem V_icmp_lt_n {off : Int} (a b tgt : Nat) (hd : vdec M pc (.if_icmp .lt off) 3) (ht : (pc : Int) + off = (tgt : Int)) (ha : a < 2147483648) (hb : b < 2147483648) (kt : a < b → V w M C k n tgt L st ws) (kf : b ≤ a → V w M C k n (pc + 3) L st ws) : V w M C k n pc L (.int (nI b) :: .int (nI a) :: st) ws := V_icmp_lt tgt hd ht (fun q => kt ((nI_ltI ha hb).mp q)) (fun q => kf (Nat.le_of_not_lt fun z => q ((nI_ltI ha hb).mpr z)))
theorem V_icmp_ge_n {off : Int} (a b tgt : Nat) (hd : vdec M pc (.if_icmp .ge off) 3) (ht : (pc : Int) + off = (tgt : Int)) (ha : a < 2147483648) (hb : b < 2147483648) (kt : b ≤ a → V w M C k n tgt L st ws) (kf : a < b → V w M C k n (pc + 3) L st ws) : V w M C k n pc L (.int (nI b) :: .int (nI a) :: st) ws := V_icmp_ge tgt hd ht (fun q => kt ((nI_leI hb ha).mp q)) (fun q => kf (Nat.lt_of_not_le fun z => q ((nI_leI hb ha).mpr z)))
theorem V_icmp_gt_n {off : Int} (a b tgt : Nat) (hd : vdec M pc (.if_icmp .gt off) 3) (ht : (pc : Int) + off = (tgt : Int)) (ha : a < 2147483648) (hb : b < 2147483648) (kt : b < a → V w M C k n tgt L st ws) (kf : a ≤ b → V w M C k n (pc + 3) L st ws) : V w M C k n pc L (.int (nI b) :: .int (nI a) :: st) ws := V_icmp_gt tgt hd ht (fun q => kt ((nI_ltI hb ha).mp q)) (fun q => kf (Nat.le_of_not_lt fun z => q ((nI_ltI hb ha).mpr z)))
theorem V_icmp_le_n {off : Int} (a b tgt : Nat) (hd : vdec M pc (.if_icmp .le off) 3) (ht : (pc : Int) + off = (tgt : Int)) (ha : a < 2147483648) (hb : b < 2147483648) (kt : a ≤ b → V w M C k n tgt L st ws) (kf : b < a → V w M C k n (pc + 3) L st ws) : V w M C k n pc L (.int (nI b) :: .int (nI a) :: st) ws := V_icmp_le tgt hd ht (fun q => kt ((nI_leI ha hb).mp q)) (fun q => kf (Nat.lt_of_not_le fun z => q ((nI_leI ha hb).mpr z)))
theorem V_if_eq_n {off : Int} (a tgt : Nat) (hd : vdec M pc (.ifCond .eq off) 3) (ht : (pc : Int) + off = (tgt : Int)) (ha : a < 2147483648) (kt : a = 0 → V w M C k n tgt L st ws) (kf : 0 < a → V w M C k n (pc + 3) L st ws) : V w M C k n pc L (.int (nI a) :: st) ws := V_if_eq tgt hd ht (fun q => kt ((nI_eq (b := 0) ha (by omega)).mp q)) (fun q => kf (Nat.pos_of_ne_zero fun z => q ((nI_eq (b := 0) ha (by omega)).mpr z)))
theorem V_if_ne_n {off : Int} (a tgt : Nat) (hd : vdec M pc (.ifCond .ne off) 3) (ht : (pc : Int) + off = (tgt : Int)) (ha : a < 2147483648) (kt : 0 < a → V w M C k n tgt L st ws) (kf : a = 0 → V w M C k n (pc + 3) L st ws) : V w M C k n pc L (.int (nI a) :: st) ws := V_if_ne tgt hd ht (fun q => kt (Nat.pos_of_ne_zero fun z => q ((nI_eq (b := 0) ha (by omega)).mpr z))) (fun q => kf ((nI_eq (b := 0) ha (by omega)).mp q))
theorem V_if_le_n {off : Int} (a tgt : Nat) (hd : vdec M pc (.ifCond .le off) 3) (ht : (pc : Int) + off = (tgt : Int)) (ha : a < 2147483648) (kt : a = 0 → V w M C k n tgt L st ws) (kf : 0 < a → V w M C k n (pc + 3) L st ws) : V w M C k n pc L (.int (nI a) :: st) ws := V_if_le tgt hd ht (fun q => kt (Nat.le_zero.mp ((nI_leI (b := 0) ha (by omega)).mp q))) (fun q => kf (Nat.lt_of_not_le fun z => q ((nI_leI (b := 0) ha (by omega)).mpr z)))
theorem V_if_gt_n {off : Int} (a tgt : Nat) (hd : vdec M pc (.ifCond .gt off) 3) (ht : (pc : Int) + off = (tgt : Int)) (ha : a < 2147483648) (kt : 0 < a → V w M C k n tgt L st ws) (kf : a = 0 → V w M C k n (pc + 3) L st ws) : V w M C k n pc L (.int (nI a) :: st) ws := V_if_gt tgt hd ht (fun q => kt ((nI_ltI (a := 0) (by omega) ha).mp q)) (fun q => kf (Nat.le_zero.mp (Nat.le_of_not_lt fun z => q ((nI_ltI (a := 0) (by omega) ha).mpr z))))
theorem V_if_lt_nf {off : Int} (a tgt : Nat) (hd : vdec M pc (.ifCond .lt off) 3) (ht : (pc : Int) + off = (tgt : Int)) (ha : a < 2147483648) (h : V w M C k n (pc + 3) L st ws) : V w M C k n pc L (.int (nI a) :: st) ws := V_if_lt_f tgt hd ht (nI_pos ha) h
theorem V_if_ge_nt {off : Int} (a tgt : Nat) (hd : vdec M pc (.ifCond .ge off) 3) (ht : (pc : Int) + off = (tgt : Int)) (ha : a < 2147483648) (h : V w M C k n tgt L st ws) : V w M C k n pc L (.int (nI a) :: st) ws := V_if_ge_t tgt hd ht (nI_pos' ha) h
variable {M' : vMet} {na idx d b q0 ci : Nat} {As rest : List Value} {wc wr ws' wc' : va_W} {v : Option Value} {fs : List Value} {cl : vw_C}
/-- a call of an own method over all the cells, which stay -/
theorem V_selfR (hd : vdec M pc (.invokevirtual idx) 3) (hl : vLk M.1.cls idx M' na) (hC : Ct w M' d 0 0 (.ref b :: As) ws (qE v ws)) (hna : As.length = na) (hst : st = As.reverse ++ .ref b :: rest) (q0 : Nat) (hrc : ws[q0]? = some (b, .inr (ci, fs))) (hcl : vwCl[ci]? = some cl) (hc1 : cl.1 = M'.1.cls) (hR : vchk C.1 d M'.2.2.1 k n rest = true)
    (h : V w M C k n (pc + 3) L (v.toList ++ rest) ws) : V w M C k n pc L st ws :=
  V_virtR (wr := []) hd hl hC hna hst (vchk_of hR).2.2 (by simp) q0 hrc hcl hc1 (vchk_of hR).1 (vchk_of hR).2.1 h
theorem V_selfE (hd : vdec M pc (.invokevirtual idx) 3) (hl : vLk M.1.cls idx M' na) (hC : Ct w M' d 0 0 (.ref b :: As) ws (qE v ws')) (hna : As.length = na) (hst : st = As.reverse ++ .ref b :: rest) (q0 : Nat) (hrc : ws[q0]? = some (b, .inr (ci, fs))) (hcl : vwCl[ci]? = some cl) (hc1 : cl.1 = M'.1.cls) (hR : vchk C.1 d M'.2.2.1 k n rest = true)
    (h : V w M C k n (pc + 3) L (v.toList ++ rest) ws') : V w M C k n pc L st ws :=
  V_virtE (wr := []) hd hl hC hna hst (vchk_of hR).2.2 (by simp) q0 hrc hcl hc1 (vchk_of hR).1 (vchk_of hR).2.1 (by simp) h
/-- a call over a part of the cells (the rest wr), which stay -/
theorem V_partR (hd : vdec M pc (.invokevirtual idx) 3) (hl : vLk M.1.cls idx M' na) (wr : va_W) (hC : Ct w M' d 0 0 (.ref b :: As) wc (qE v wc)) (hp : ws.Perm (wc ++ wr)) (hna : As.length = na) (hst : st = As.reverse ++ .ref b :: rest) (q0 : Nat) (hrc : wc[q0]? = some (b, .inr (ci, fs))) (hcl : vwCl[ci]? = some cl) (hc1 : cl.1 = M'.1.cls) (hR : vchk C.1 d M'.2.2.1 k n rest = true)
    (h : V w M C k n (pc + 3) L (v.toList ++ rest) ws) : V w M C k n pc L st ws :=
  V_virtR hd hl hC hna hst (vchk_of hR).2.2 hp q0 hrc hcl hc1 (vchk_of hR).1 (vchk_of hR).2.1 h
theorem V_partE (hd : vdec M pc (.invokevirtual idx) 3) (hl : vLk M.1.cls idx M' na) (wr : va_W) (hC : Ct w M' d 0 0 (.ref b :: As) wc (qE v wc')) (hp : ws.Perm (wc ++ wr)) (hp' : (wc' ++ wr).Perm ws') (hna : As.length = na) (hst : st = As.reverse ++ .ref b :: rest) (q0 : Nat) (hrc : wc[q0]? = some (b, .inr (ci, fs))) (hcl : vwCl[ci]? = some cl) (hc1 : cl.1 = M'.1.cls) (hR : vchk C.1 d M'.2.2.1 k n rest = true)
    (h : V w M C k n (pc + 3) L (v.toList ++ rest) ws') : V w M C k n pc L st ws :=
  V_virtE hd hl hC hna hst (vchk_of hR).2.2 hp q0 hrc hcl hc1 (vchk_of hR).1 (vchk_of hR).2.1 hp' h
theorem V_purS (hd : vdec M pc (.invokestatic idx) 3) (hl : vLs M.1.cls idx M' na) (hC : Ct w M' d 0 0 As [] (qE v [])) (hna : As.length = na) (hst : st = As.reverse ++ rest) (hR : vchk C.1 d M'.2.2.1 k n rest = true)
    (h : V w M C k n (pc + 3) L (v.toList ++ rest) ws) : V w M C k n pc L st ws :=
  V_statR hd hl hC hna hst (vchk_of hR).2.2 (vchk_of hR).1 (vchk_of hR).2.1 h
def vLm (own : String) (idx : Nat) (y : MethodName) (c : ByteArray) : Prop := Cond.methodLink own idx y ∈ TT ∧ Cond.static y ∈ TT ∧ Cond.initialized "java/lang/Math" ∈ TT ∧ Cond.code y c 2 (some .int) ∈ TT
def vchm (R : Room) (k n : Nat) (rest : List Value) : Bool := Nat.ble 1 R.frames && (Nat.ble ((rest.map fun v => v.category).sum + 13) R.locals && (Nat.ble k R.cells && Nat.ble n R.slots))
theorem vchm_of {R : Room} {k n : Nat} {rest : List Value} (h : vchm R k n rest = true) : 1 ≤ R.frames ∧ (rest.map fun v => v.category).sum + 13 ≤ R.locals ∧ k ≤ R.cells ∧ n ≤ R.slots := by
  unfold vchm at h
  simp only [Bool.and_eq_true] at h
  exact ⟨nb h.1, nb h.2.1, nb h.2.2.1, nb h.2.2.2⟩
def imax (x y : Int32) : Int32 := if x < y then y else x
def imin (x y : Int32) : Int32 := if y < x then y else x
theorem V_mmax {x y : Int32} {rest : List Value} (hd : vdec M pc (.invokestatic idx) 3) (hm : vLm M.1.cls idx Lib.Math.max.name Lib.Math.max.code) (hR : vchm C.1 k n rest = true) (h : V w M C k n (pc + 3) L (.int (imax x y) :: rest) ws) : V w M C k n pc L (.int y :: .int x :: rest) ws :=
  fun p e s m args below meth c A H locs ls o E hP hD hS hl => va_mmax o.1 o.2.1 (o.2.2.2.1.trans hl.1.symm) o.2.2.2.2.1 (o.2.2.2.2.2.1 _ hm.1) (o.2.2.2.2.2.1 _ hm.2.1) (o.2.2.2.2.2.1 _ hm.2.2.1) (o.2.2.2.2.2.1 _ hm.2.2.2) (vchm_of hR).1 (vchm_of hR).2.1 (vchm_of hR).2.2.1 (vchm_of hR).2.2.2 hd (h p e s m args below meth c A H locs ls o E hP hD hS hl)
theorem V_mmin {x y : Int32} {rest : List Value} (hd : vdec M pc (.invokestatic idx) 3) (hm : vLm M.1.cls idx Lib.Math.min.name Lib.Math.min.code) (hR : vchm C.1 k n rest = true) (h : V w M C k n (pc + 3) L (.int (imin x y) :: rest) ws) : V w M C k n pc L (.int y :: .int x :: rest) ws :=
  fun p e s m args below meth c A H locs ls o E hP hD hS hl => va_mmin o.1 o.2.1 (o.2.2.2.1.trans hl.1.symm) o.2.2.2.2.1 (o.2.2.2.2.2.1 _ hm.1) (o.2.2.2.2.2.1 _ hm.2.1) (o.2.2.2.2.2.1 _ hm.2.2.1) (o.2.2.2.2.2.1 _ hm.2.2.2) (vchm_of hR).1 (vchm_of hR).2.1 (vchm_of hR).2.2.1 (vchm_of hR).2.2.2 hd (h p e s m args below meth c A H locs ls o E hP hD hS hl)
end VB
theorem lX4_134 : vLm RX4 134 Lib.Math.min.name Lib.Math.min.code := ⟨TT_at 332 (by decide +kernel) rfl, TT_at 333 (by decide +kernel) rfl, TT_at 81 (by decide +kernel) rfl, TT_at 334 (by decide +kernel) rfl⟩
theorem lX4_143 : vLm RX4 143 Lib.Math.max.name Lib.Math.max.code := ⟨TT_at 343 (by decide +kernel) rfl, TT_at 344 (by decide +kernel) rfl, TT_at 81 (by decide +kernel) rfl, TT_at 345 (by decide +kernel) rfl⟩
theorem lX3_27 : vLm RX3 27 Lib.Math.min.name Lib.Math.min.code := ⟨TT_at 495 (by decide +kernel) rfl, TT_at 333 (by decide +kernel) rfl, TT_at 81 (by decide +kernel) rfl, TT_at 334 (by decide +kernel) rfl⟩
theorem lX3_72 : vLm RX3 72 Lib.Math.max.name Lib.Math.max.code := ⟨TT_at 509 (by decide +kernel) rfl, TT_at 344 (by decide +kernel) rfl, TT_at 81 (by decide +kernel) rfl, TT_at 345 (by decide +kernel) rfl⟩
theorem lX1_114 : vLm RX1 114 Lib.Math.min.name Lib.Math.min.code := ⟨TT_at 709 (by decide +kernel) rfl, TT_at 333 (by decide +kernel) rfl, TT_at 81 (by decide +kernel) rfl, TT_at 334 (by decide +kernel) rfl⟩
theorem lX1_51 : vLm RX1 51 Lib.Math.max.name Lib.Math.max.code := ⟨TT_at 710 (by decide +kernel) rfl, TT_at 344 (by decide +kernel) rfl, TT_at 81 (by decide +kernel) rfl, TT_at 345 (by decide +kernel) rfl⟩
theorem lX2_47 : vLm RX2 47 Lib.Math.max.name Lib.Math.max.code := ⟨TT_at 863 (by decide +kernel) rfl, TT_at 344 (by decide +kernel) rfl, TT_at 81 (by decide +kernel) rfl, TT_at 345 (by decide +kernel) rfl⟩
theorem lX0_28 : vLm RX0 28 Lib.Math.max.name Lib.Math.max.code := ⟨TT_at 868 (by decide +kernel) rfl, TT_at 344 (by decide +kernel) rfl, TT_at 81 (by decide +kernel) rfl, TT_at 345 (by decide +kernel) rfl⟩
