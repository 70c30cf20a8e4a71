/-! 33: CashDeriver$Tracer: the searches -/
def oD : Option Int32 → Int32 | some v => v | none => -1
def sF1 (Q : SP) (x : Nat) : Option Int32 := if sEx Q x 30 30 = true then some (sBit Q x) else none
def sF2 (Q : SP) (x y : Nat) : Option Int32 := if sEx Q x y 30 = true then some (sBit Q x ||| sBit Q y) else none
def sF3 (Q : SP) (x y z : Nat) : Option Int32 := if sEx Q x y z = true then some (sBit Q x ||| sBit Q y ||| sBit Q z) else none

set_option maxRecDepth 100000 in
set_option maxHeartbeats 4000000 in
theorem lp_S_one (w : vWd) (a sr : Nat → Nat) (Q : SP) (hQ : okQ Q) (R : Int32) : ∀ (m : Nat) (x : Nat), ((Q.1 - x) + 1 ≤ m) → (x ≤ 31) → (∀ v, fnd (fun x => sF1 Q x) (Q.1 - x) x = some v → R = v) → (fnd (fun x => sF1 Q x) (Q.1 - x) x = none → V w mX6_searchOne (vc w 1 0 0 (qE (some (.int R)) (cQ w a sr Q))) 0 0 34 [(0, .ref (a 0))] [] (cQ w a sr Q)) → V w mX6_searchOne (vc w 1 0 0 (qE (some (.int R)) (cQ w a sr Q))) 0 0 2 [(0, .ref (a 0)), (1, .int (nI x))] [] (cQ w a sr Q) := by
  intro m
  induction m with
  | zero =>
    intro x h1 hb hR hnx
    exact absurd h1 (by omega)
  | succ m ih =>
    intro x h1 hb hR hnx
    obtain ⟨hq1, hq2⟩ := id hQ
    refine V_iload_n dX6_searchOne_2 1 rfl ?_
    refine V_aload_n dX6_searchOne_3 0 rfl ?_
    refine V_get dX6_searchOne_4 fX6_23 0 rfl rfl ?_
    refine V_icmp_ge_n x Q.1 34 dX6_searchOne_7 (by decide) (by omega) (by omega) (fun zc1 => ?_) (fun zc1 => ?_)
    · refine V_dropL (L' := [(0, .ref (a 0))]) (L'' := [(1, .int (nI x))]) rfl ?_
      exact hnx (by rw [show (Q.1 - x) = 0 by omega]; rfl)
    · rw [show (Q.1 - x) = (Q.1 - (x + 1)) + 1 by omega] at hR hnx
      refine V_aload_n dX6_searchOne_10 0 rfl ?_
      refine V_iload_n dX6_searchOne_11 1 rfl ?_
      refine V_bipush 30 dX6_searchOne_12 (by decide) ?_
      refine V_bipush 30 dX6_searchOne_14 (by decide) ?_
      refine V_selfR dX6_searchOne_16 lX6_37 (c_S_explain w a sr Q hQ x 30 30 (by omega) (by omega) (by omega)) rfl rfl 0 rfl rfl rfl rfl ?_
      refine V_ifeq_b 28 dX6_searchOne_19 (by decide) (fun zc2 => ?_) (fun zc2 => ?_)
      · have hf : sF1 Q x = none := by clear ih hR hnx; grind [sF1]
        refine V_iinc (nI (x + 1)) dX6_searchOne_28 1 rfl (nI_i1 x) rfl (L' := [(0, .ref (a 0)), (1, .int (nI (x + 1)))]) rfl ?_
        refine V_goto 2 dX6_searchOne_31 (by decide) ?_
        exact ih (x + 1) (by omega) (by omega) (fun v e => hR v (by rw [fnd_n (f := (fun x => sF1 Q x)) hf]; exact e)) (fun e => hnx (by rw [fnd_n (f := (fun x => sF1 Q x)) hf]; exact e))
      · refine V_aload_n dX6_searchOne_22 0 rfl ?_
        refine V_iload_n dX6_searchOne_23 1 rfl ?_
        refine V_selfR dX6_searchOne_24 lX6_78 (c_S_bitOf w a sr Q hQ x (by omega)) rfl rfl 0 rfl rfl rfl rfl ?_
        refine V_iret dX6_searchOne_27 rfl (nb rfl) (nb rfl) ?_
        have hs : sF1 Q x = some (sBit Q x) := by clear ih hR hnx; grind [sF1]
        exact ⟨by rw [hR _ (fnd_s hs)], rfl⟩

set_option maxRecDepth 100000 in
set_option maxHeartbeats 4000000 in
theorem c_S_searchOne (w : vWd) (a sr : Nat → Nat) (Q : SP) (hQ : okQ Q) : Ct w mX6_searchOne 1 0 0 [.ref (a 0)] (cQ w a sr Q) (qE (some (.int (oD (fnd (fun x => sF1 Q x) (Q.1 - 0) 0)))) (cQ w a sr Q)) := by
  refine Ct.of (L := [(0, .ref (a 0))]) (by decide) rfl rfl ?_
  obtain ⟨hq1, hq2⟩ := id hQ
  refine V_iconst 0 dX6_searchOne_0 (by decide) ?_
  refine V_istore_n dX6_searchOne_1 rfl (L' := [(0, .ref (a 0)), (1, .int 0)]) rfl ?_
  refine lp_S_one w a sr Q hQ (oD (fnd (fun x => sF1 Q x) (Q.1 - 0) 0)) (Q.1 - 0 + 1) 0 (by omega) (by omega) (fun v e => by rw [e]; rfl) (fun hf => ?_)
  refine V_iconst (-1) dX6_searchOne_34 (by decide) ?_
  exact V_iret dX6_searchOne_35 rfl (nb rfl) (nb rfl) ⟨by rw [hf]; rfl, rfl⟩

set_option maxRecDepth 100000 in
set_option maxHeartbeats 4000000 in
theorem lpy_S_two (w : vWd) (a sr : Nat → Nat) (Q : SP) (hQ : okQ Q) (R : Int32) (x : Nat) (hx : x < 30) : ∀ (m : Nat) (y : Nat), ((x - y) + 1 ≤ m) → (y ≤ 31) → (∀ v, fnd (fun y => sF2 Q x y) (x - y) y = some v → R = v) → (fnd (fun y => sF2 Q x y) (x - y) y = none → V w mX6_searchTwo (vc w 1 0 0 (qE (some (.int R)) (cQ w a sr Q))) 0 0 46 [(0, .ref (a 0)), (1, .int (nI x))] [] (cQ w a sr Q)) → V w mX6_searchTwo (vc w 1 0 0 (qE (some (.int R)) (cQ w a sr Q))) 0 0 12 [(0, .ref (a 0)), (1, .int (nI x)), (2, .int (nI y))] [] (cQ w a sr Q) := by
  intro m
  induction m with
  | zero =>
    intro y h1 hb hR hnx
    exact absurd h1 (by omega)
  | succ m ih =>
    intro y h1 hb hR hnx
    obtain ⟨hq1, hq2⟩ := id hQ
    refine V_iload_n dX6_searchTwo_12 2 rfl ?_
    refine V_iload_n dX6_searchTwo_13 1 rfl ?_
    refine V_icmp_ge_n y x 46 dX6_searchTwo_14 (by decide) (by omega) (by omega) (fun zc1 => ?_) (fun zc1 => ?_)
    · refine V_dropL (L' := [(0, .ref (a 0)), (1, .int (nI x))]) (L'' := [(2, .int (nI y))]) rfl ?_
      exact hnx (by rw [show (x - y) = 0 by omega]; rfl)
    · rw [show (x - y) = (x - (y + 1)) + 1 by omega] at hR hnx
      refine V_aload_n dX6_searchTwo_17 0 rfl ?_
      refine V_iload_n dX6_searchTwo_18 1 rfl ?_
      refine V_iload_n dX6_searchTwo_19 2 rfl ?_
      refine V_bipush 30 dX6_searchTwo_20 (by decide) ?_
      refine V_selfR dX6_searchTwo_22 lX6_37 (c_S_explain w a sr Q hQ x y 30 (by omega) (by omega) (by omega)) rfl rfl 0 rfl rfl rfl rfl ?_
      refine V_ifeq_b 40 dX6_searchTwo_25 (by decide) (fun zc2 => ?_) (fun zc2 => ?_)
      · have hf : sF2 Q x y = none := by clear ih hR hnx; grind [sF2]
        refine V_iinc (nI (y + 1)) dX6_searchTwo_40 2 rfl (nI_i1 y) rfl (L' := [(0, .ref (a 0)), (1, .int (nI x)), (2, .int (nI (y + 1)))]) rfl ?_
        refine V_goto 12 dX6_searchTwo_43 (by decide) ?_
        exact ih (y + 1) (by omega) (by omega) (fun v e => hR v (by rw [fnd_n (f := (fun y => sF2 Q x y)) hf]; exact e)) (fun e => hnx (by rw [fnd_n (f := (fun y => sF2 Q x y)) hf]; exact e))
      · refine V_aload_n dX6_searchTwo_28 0 rfl ?_
        refine V_iload_n dX6_searchTwo_29 1 rfl ?_
        refine V_selfR dX6_searchTwo_30 lX6_78 (c_S_bitOf w a sr Q hQ x (by omega)) rfl rfl 0 rfl rfl rfl rfl ?_
        refine V_aload_n dX6_searchTwo_33 0 rfl ?_
        refine V_iload_n dX6_searchTwo_34 2 rfl ?_
        refine V_selfR dX6_searchTwo_35 lX6_78 (c_S_bitOf w a sr Q hQ y (by omega)) rfl rfl 0 rfl rfl rfl rfl ?_
        refine V_ior dX6_searchTwo_38 ?_
        refine V_iret dX6_searchTwo_39 rfl (nb rfl) (nb rfl) ?_
        have hs : sF2 Q x y = some ((sBit Q x) ||| (sBit Q y)) := by clear ih hR hnx; grind [sF2]
        exact ⟨by rw [hR _ (fnd_s hs)], rfl⟩

set_option maxRecDepth 100000 in
set_option maxHeartbeats 4000000 in
theorem lpx_S_two (w : vWd) (a sr : Nat → Nat) (Q : SP) (hQ : okQ Q) (R : Int32) : ∀ (m : Nat) (x : Nat), ((Q.1 - x) + 1 ≤ m) → (x ≤ 31) → (∀ v, fnd (fun x => fnd (fun y => sF2 Q x y) (x - 0) 0) (Q.1 - x) x = some v → R = v) → (fnd (fun x => fnd (fun y => sF2 Q x y) (x - 0) 0) (Q.1 - x) x = none → V w mX6_searchTwo (vc w 1 0 0 (qE (some (.int R)) (cQ w a sr Q))) 0 0 52 [(0, .ref (a 0))] [] (cQ w a sr Q)) → V w mX6_searchTwo (vc w 1 0 0 (qE (some (.int R)) (cQ w a sr Q))) 0 0 2 [(0, .ref (a 0)), (1, .int (nI x))] [] (cQ w a sr Q) := by
  intro m
  induction m with
  | zero =>
    intro x h1 hb hR hnx
    exact absurd h1 (by omega)
  | succ m ih =>
    intro x h1 hb hR hnx
    obtain ⟨hq1, hq2⟩ := id hQ
    refine V_iload_n dX6_searchTwo_2 1 rfl ?_
    refine V_aload_n dX6_searchTwo_3 0 rfl ?_
    refine V_get dX6_searchTwo_4 fX6_23 0 rfl rfl ?_
    refine V_icmp_ge_n x Q.1 52 dX6_searchTwo_7 (by decide) (by omega) (by omega) (fun zc1 => ?_) (fun zc1 => ?_)
    · refine V_dropL (L' := [(0, .ref (a 0))]) (L'' := [(1, .int (nI x))]) rfl ?_
      exact hnx (by rw [show (Q.1 - x) = 0 by omega]; rfl)
    · rw [show (Q.1 - x) = (Q.1 - (x + 1)) + 1 by omega] at hR hnx
      refine V_iconst 0 dX6_searchTwo_10 (by decide) ?_
      refine V_istore_n dX6_searchTwo_11 rfl (L' := [(0, .ref (a 0)), (1, .int (nI x)), (2, .int 0)]) rfl ?_
      refine lpy_S_two w a sr Q hQ R x (by omega) (x - 0 + 1) 0 (by omega) (by omega) (fun v e => hR v (fnd_s (f := (fun x => fnd (fun y => sF2 Q x y) (x - 0) 0)) e)) (fun hf => ?_)
      refine V_iinc (nI (x + 1)) dX6_searchTwo_46 1 rfl (nI_i1 x) rfl (L' := [(0, .ref (a 0)), (1, .int (nI (x + 1)))]) rfl ?_
      refine V_goto 2 dX6_searchTwo_49 (by decide) ?_
      exact ih (x + 1) (by omega) (by omega) (fun v e => hR v (by rw [fnd_n (f := (fun x => fnd (fun y => sF2 Q x y) (x - 0) 0)) hf]; exact e)) (fun e => hnx (by rw [fnd_n (f := (fun x => fnd (fun y => sF2 Q x y) (x - 0) 0)) hf]; exact e))

set_option maxRecDepth 100000 in
set_option maxHeartbeats 4000000 in
theorem c_S_searchTwo (w : vWd) (a sr : Nat → Nat) (Q : SP) (hQ : okQ Q) : Ct w mX6_searchTwo 1 0 0 [.ref (a 0)] (cQ w a sr Q) (qE (some (.int (oD (fnd (fun x => fnd (fun y => sF2 Q x y) (x - 0) 0) (Q.1 - 1) 1)))) (cQ w a sr Q)) := by
  refine Ct.of (L := [(0, .ref (a 0))]) (by decide) rfl rfl ?_
  obtain ⟨hq1, hq2⟩ := id hQ
  refine V_iconst 1 dX6_searchTwo_0 (by decide) ?_
  refine V_istore_n dX6_searchTwo_1 rfl (L' := [(0, .ref (a 0)), (1, .int 1)]) rfl ?_
  refine lpx_S_two w a sr Q hQ (oD (fnd (fun x => fnd (fun y => sF2 Q x y) (x - 0) 0) (Q.1 - 1) 1)) (Q.1 - 1 + 1) 1 (by omega) (by omega) (fun v e => by rw [e]; rfl) (fun hf => ?_)
  refine V_iconst (-1) dX6_searchTwo_52 (by decide) ?_
  exact V_iret dX6_searchTwo_53 rfl (nb rfl) (nb rfl) ⟨by rw [hf]; rfl, rfl⟩

set_option maxRecDepth 100000 in
set_option maxHeartbeats 4000000 in
theorem lpz_S_three (w : vWd) (a sr : Nat → Nat) (Q : SP) (hQ : okQ Q) (R : Int32) (x y : Nat) (hx : x < 30) (hy : y < 30) : ∀ (m : Nat) (z : Nat), ((y - z) + 1 ≤ m) → (z ≤ 31) → (∀ v, fnd (fun z => sF3 Q x y z) (y - z) z = some v → R = v) → (fnd (fun z => sF3 Q x y z) (y - z) z = none → V w mX6_searchThree (vc w 1 0 0 (qE (some (.int R)) (cQ w a sr Q))) 0 0 58 [(0, .ref (a 0)), (1, .int (nI x)), (2, .int (nI y))] [] (cQ w a sr Q)) → V w mX6_searchThree (vc w 1 0 0 (qE (some (.int R)) (cQ w a sr Q))) 0 0 19 [(0, .ref (a 0)), (1, .int (nI x)), (2, .int (nI y)), (3, .int (nI z))] [] (cQ w a sr Q) := by
  intro m
  induction m with
  | zero =>
    intro z h1 hb hR hnx
    exact absurd h1 (by omega)
  | succ m ih =>
    intro z h1 hb hR hnx
    obtain ⟨hq1, hq2⟩ := id hQ
    refine V_iload_n dX6_searchThree_19 3 rfl ?_
    refine V_iload_n dX6_searchThree_20 2 rfl ?_
    refine V_icmp_ge_n z y 58 dX6_searchThree_21 (by decide) (by omega) (by omega) (fun zc1 => ?_) (fun zc1 => ?_)
    · refine V_dropL (L' := [(0, .ref (a 0)), (1, .int (nI x)), (2, .int (nI y))]) (L'' := [(3, .int (nI z))]) rfl ?_
      exact hnx (by rw [show (y - z) = 0 by omega]; rfl)
    · rw [show (y - z) = (y - (z + 1)) + 1 by omega] at hR hnx
      refine V_aload_n dX6_searchThree_24 0 rfl ?_
      refine V_iload_n dX6_searchThree_25 1 rfl ?_
      refine V_iload_n dX6_searchThree_26 2 rfl ?_
      refine V_iload_n dX6_searchThree_27 3 rfl ?_
      refine V_selfR dX6_searchThree_28 lX6_37 (c_S_explain w a sr Q hQ x y z (by omega) (by omega) (by omega)) rfl rfl 0 rfl rfl rfl rfl ?_
      refine V_ifeq_b 52 dX6_searchThree_31 (by decide) (fun zc2 => ?_) (fun zc2 => ?_)
      · have hf : sF3 Q x y z = none := by clear ih hR hnx; grind [sF3]
        refine V_iinc (nI (z + 1)) dX6_searchThree_52 3 rfl (nI_i1 z) rfl (L' := [(0, .ref (a 0)), (1, .int (nI x)), (2, .int (nI y)), (3, .int (nI (z + 1)))]) rfl ?_
        refine V_goto 19 dX6_searchThree_55 (by decide) ?_
        exact ih (z + 1) (by omega) (by omega) (fun v e => hR v (by rw [fnd_n (f := (fun z => sF3 Q x y z)) hf]; exact e)) (fun e => hnx (by rw [fnd_n (f := (fun z => sF3 Q x y z)) hf]; exact e))
      · refine V_aload_n dX6_searchThree_34 0 rfl ?_
        refine V_iload_n dX6_searchThree_35 1 rfl ?_
        refine V_selfR dX6_searchThree_36 lX6_78 (c_S_bitOf w a sr Q hQ x (by omega)) rfl rfl 0 rfl rfl rfl rfl ?_
        refine V_aload_n dX6_searchThree_39 0 rfl ?_
        refine V_iload_n dX6_searchThree_40 2 rfl ?_
        refine V_selfR dX6_searchThree_41 lX6_78 (c_S_bitOf w a sr Q hQ y (by omega)) rfl rfl 0 rfl rfl rfl rfl ?_
        refine V_ior dX6_searchThree_44 ?_
        refine V_aload_n dX6_searchThree_45 0 rfl ?_
        refine V_iload_n dX6_searchThree_46 3 rfl ?_
        refine V_selfR dX6_searchThree_47 lX6_78 (c_S_bitOf w a sr Q hQ z (by omega)) rfl rfl 0 rfl rfl rfl rfl ?_
        refine V_ior dX6_searchThree_50 ?_
        refine V_iret dX6_searchThree_51 rfl (nb rfl) (nb rfl) ?_
        have hs : sF3 Q x y z = some (((sBit Q x) ||| (sBit Q y)) ||| (sBit Q z)) := by clear ih hR hnx; grind [sF3]
        exact ⟨by rw [hR _ (fnd_s hs)], rfl⟩

set_option maxRecDepth 100000 in
set_option maxHeartbeats 4000000 in
theorem lpy_S_three (w : vWd) (a sr : Nat → Nat) (Q : SP) (hQ : okQ Q) (R : Int32) (x : Nat) (hx : x < 30) : ∀ (m : Nat) (y : Nat), ((x - y) + 1 ≤ m) → (y ≤ 31) → (∀ v, fnd (fun y => fnd (fun z => sF3 Q x y z) (y - 0) 0) (x - y) y = some v → R = v) → (fnd (fun y => fnd (fun z => sF3 Q x y z) (y - 0) 0) (x - y) y = none → V w mX6_searchThree (vc w 1 0 0 (qE (some (.int R)) (cQ w a sr Q))) 0 0 64 [(0, .ref (a 0)), (1, .int (nI x))] [] (cQ w a sr Q)) → V w mX6_searchThree (vc w 1 0 0 (qE (some (.int R)) (cQ w a sr Q))) 0 0 12 [(0, .ref (a 0)), (1, .int (nI x)), (2, .int (nI y))] [] (cQ w a sr Q) := by
  intro m
  induction m with
  | zero =>
    intro y h1 hb hR hnx
    exact absurd h1 (by omega)
  | succ m ih =>
    intro y h1 hb hR hnx
    obtain ⟨hq1, hq2⟩ := id hQ
    refine V_iload_n dX6_searchThree_12 2 rfl ?_
    refine V_iload_n dX6_searchThree_13 1 rfl ?_
    refine V_icmp_ge_n y x 64 dX6_searchThree_14 (by decide) (by omega) (by omega) (fun zc1 => ?_) (fun zc1 => ?_)
    · refine V_dropL (L' := [(0, .ref (a 0)), (1, .int (nI x))]) (L'' := [(2, .int (nI y))]) rfl ?_
      exact hnx (by rw [show (x - y) = 0 by omega]; rfl)
    · rw [show (x - y) = (x - (y + 1)) + 1 by omega] at hR hnx
      refine V_iconst 0 dX6_searchThree_17 (by decide) ?_
      refine V_istore_n dX6_searchThree_18 rfl (L' := [(0, .ref (a 0)), (1, .int (nI x)), (2, .int (nI y)), (3, .int 0)]) rfl ?_
      refine lpz_S_three w a sr Q hQ R x y hx (by omega) (y - 0 + 1) 0 (by omega) (by omega) (fun v e => hR v (fnd_s (f := (fun y => fnd (fun z => sF3 Q x y z) (y - 0) 0)) e)) (fun hf => ?_)
      refine V_iinc (nI (y + 1)) dX6_searchThree_58 2 rfl (nI_i1 y) rfl (L' := [(0, .ref (a 0)), (1, .int (nI x)), (2, .int (nI (y + 1)))]) rfl ?_
      refine V_goto 12 dX6_searchThree_61 (by decide) ?_
      exact ih (y + 1) (by omega) (by omega) (fun v e => hR v (by rw [fnd_n (f := (fun y => fnd (fun z => sF3 Q x y z) (y - 0) 0)) hf]; exact e)) (fun e => hnx (by rw [fnd_n (f := (fun y => fnd (fun z => sF3 Q x y z) (y - 0) 0)) hf]; exact e))

set_option maxRecDepth 100000 in
set_option maxHeartbeats 4000000 in
theorem lpx_S_three (w : vWd) (a sr : Nat → Nat) (Q : SP) (hQ : okQ Q) (R : Int32) : ∀ (m : Nat) (x : Nat), ((Q.1 - x) + 1 ≤ m) → (x ≤ 31) → (∀ v, fnd (fun x => fnd (fun y => fnd (fun z => sF3 Q x y z) (y - 0) 0) (x - 1) 1) (Q.1 - x) x = some v → R = v) → (fnd (fun x => fnd (fun y => fnd (fun z => sF3 Q x y z) (y - 0) 0) (x - 1) 1) (Q.1 - x) x = none → V w mX6_searchThree (vc w 1 0 0 (qE (some (.int R)) (cQ w a sr Q))) 0 0 70 [(0, .ref (a 0))] [] (cQ w a sr Q)) → V w mX6_searchThree (vc w 1 0 0 (qE (some (.int R)) (cQ w a sr Q))) 0 0 2 [(0, .ref (a 0)), (1, .int (nI x))] [] (cQ w a sr Q) := by
  intro m
  induction m with
  | zero =>
    intro x h1 hb hR hnx
    exact absurd h1 (by omega)
  | succ m ih =>
    intro x h1 hb hR hnx
    obtain ⟨hq1, hq2⟩ := id hQ
    refine V_iload_n dX6_searchThree_2 1 rfl ?_
    refine V_aload_n dX6_searchThree_3 0 rfl ?_
    refine V_get dX6_searchThree_4 fX6_23 0 rfl rfl ?_
    refine V_icmp_ge_n x Q.1 70 dX6_searchThree_7 (by decide) (by omega) (by omega) (fun zc1 => ?_) (fun zc1 => ?_)
    · refine V_dropL (L' := [(0, .ref (a 0))]) (L'' := [(1, .int (nI x))]) rfl ?_
      exact hnx (by rw [show (Q.1 - x) = 0 by omega]; rfl)
    · rw [show (Q.1 - x) = (Q.1 - (x + 1)) + 1 by omega] at hR hnx
      refine V_iconst 1 dX6_searchThree_10 (by decide) ?_
      refine V_istore_n dX6_searchThree_11 rfl (L' := [(0, .ref (a 0)), (1, .int (nI x)), (2, .int 1)]) rfl ?_
      refine lpy_S_three w a sr Q hQ R x (by omega) (x - 1 + 1) 1 (by omega) (by omega) (fun v e => hR v (fnd_s (f := (fun x => fnd (fun y => fnd (fun z => sF3 Q x y z) (y - 0) 0) (x - 1) 1)) e)) (fun hf => ?_)
      refine V_iinc (nI (x + 1)) dX6_searchThree_64 1 rfl (nI_i1 x) rfl (L' := [(0, .ref (a 0)), (1, .int (nI (x + 1)))]) rfl ?_
      refine V_goto 2 dX6_searchThree_67 (by decide) ?_
      exact ih (x + 1) (by omega) (by omega) (fun v e => hR v (by rw [fnd_n (f := (fun x => fnd (fun y => fnd (fun z => sF3 Q x y z) (y - 0) 0) (x - 1) 1)) hf]; exact e)) (fun e => hnx (by rw [fnd_n (f := (fun x => fnd (fun y => fnd (fun z => sF3 Q x y z) (y - 0) 0) (x - 1) 1)) hf]; exact e))

set_option maxRecDepth 100000 in
set_option maxHeartbeats 4000000 in
theorem c_S_searchThree (w : vWd) (a sr : Nat → Nat) (Q : SP) (hQ : okQ Q) : Ct w mX6_searchThree 1 0 0 [.ref (a 0)] (cQ w a sr Q) (qE (some (.int (oD (fnd (fun x => fnd (fun y => fnd (fun z => sF3 Q x y z) (y - 0) 0) (x - 1) 1) (Q.1 - 2) 2)))) (cQ w a sr Q)) := by
  refine Ct.of (L := [(0, .ref (a 0))]) (by decide) rfl rfl ?_
  obtain ⟨hq1, hq2⟩ := id hQ
  refine V_iconst 2 dX6_searchThree_0 (by decide) ?_
  refine V_istore_n dX6_searchThree_1 rfl (L' := [(0, .ref (a 0)), (1, .int 2)]) rfl ?_
  refine lpx_S_three w a sr Q hQ (oD (fnd (fun x => fnd (fun y => fnd (fun z => sF3 Q x y z) (y - 0) 0) (x - 1) 1) (Q.1 - 2) 2)) (Q.1 - 2 + 1) 2 (by omega) (by omega) (fun v e => by rw [e]; rfl) (fun hf => ?_)
  refine V_iconst (-1) dX6_searchThree_70 (by decide) ?_
  exact V_iret dX6_searchThree_71 rfl (nb rfl) (nb rfl) ⟨by rw [hf]; rfl, rfl⟩
