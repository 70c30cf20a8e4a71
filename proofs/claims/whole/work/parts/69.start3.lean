/-! 69: the law from its entry -/
theorem st_empty : sR (0, fun _ => 0) (0, 0, 0, 0, 0, 0, 0) Q0 (0, fun _ _ => 0) B0 B0 (0, 0, 0, 0, 0, 0, 0, 0, 0, 0) 0 (fun _ _ => 0) := by
  have ok : okB B0 := ⟨Nat.zero_le _, Nat.zero_le _, fun _ _ => ⟨Nat.zero_le _, Nat.zero_le _, Nat.zero_le _⟩⟩
  exact ⟨rfl, ⟨Nat.zero_le _, fun k hk => absurd hk (Nat.not_lt_zero k)⟩, rfl, ⟨ok, nI_0.symm, nI_0.symm, fun i hi => absurd hi (Nat.not_lt_zero i), fun j hj => absurd hj (Nat.not_lt_zero j)⟩, ⟨rfl, Nat.zero_le _, fun n hn => absurd hn (Nat.not_lt_zero n)⟩, ok, fun _ => rfl⟩
theorem v_beg (x y t : va_W) : (y ++ (x ++ []) ++ t).Perm (x ++ (y ++ t)) := by
  rw [List.append_nil, List.append_assoc]
  exact v_pull y x t
theorem law_start {w : vWd} {nm : String} {b0 L : Nat} {xs : Nat → Int32} (hst : w.1.stackTraces = false) (hL : L ≤ 3072) : V w (mLw nm) (lwC b0 L xs) 0 0 0 [(0, .ref b0)] [] [] := by
  refine V_new dL_law_0 nL_8 rfl (fun q => ?_)
  refine V_dup dL_law_3 rfl ?_
  refine V_init (wr := []) dL_law_4 lL_18 c_D_init rfl (As := []) rfl (Nat.le_of_ble_eq_true rfl) (List.Perm.refl _) ⟨Nat.le_of_ble_eq_true rfl, Nat.le_of_ble_eq_true rfl⟩ ⟨Nat.le_of_ble_eq_true rfl, Nat.le_of_ble_eq_true rfl⟩ (fun r z hz => ?_)
  obtain ⟨rfl, D, b1, b2, e1, rfl⟩ := hz
  subst e1
  refine V_astore_n (L' := [(0, .ref b0), (1, .ref D.1)]) dL_law_7 rfl rfl ?_
  refine V_new dL_law_8 nL_19 rfl (fun q2 => ?_)
  refine V_dup dL_law_11 rfl ?_
  refine V_init (wr := cD w D b1 b2 (0, fun _ => 0) (0, 0, 0, 0, 0, 0, 0) G0 Q0 (0, fun _ _ => 0) B0 B0 ++ []) dL_law_12 lL_21 c_M_init rfl (As := []) rfl (Nat.le_of_ble_eq_true rfl) List.perm_append_comm ⟨Nat.le_of_ble_eq_true rfl, Nat.le_of_ble_eq_true rfl⟩ ⟨Nat.le_of_ble_eq_true rfl, Nat.le_of_ble_eq_true rfl⟩ (fun r z hz => ?_)
  obtain ⟨rfl, a, e2, rfl⟩ := hz
  subst e2
  refine V_astore_n (L' := [(0, .ref b0), (1, .ref D.1), (2, .ref (a 0))]) dL_law_15 rfl rfl ?_
  refine V_iconst 1 dL_law_16 (by decide) ?_
  refine V_newL 1 dL_law_17 (by decide) (by decide) rfl rfl (fun u => ?_)
  refine V_astore_n (L' := [(0, .ref b0), (1, .ref D.1), (2, .ref (a 0)), (3, .ref u)]) dL_law_19 rfl rfl ?_
  refine V_iconst 0 dL_law_20 (by decide) ?_
  refine V_casti (y := nI 0) nI_0.symm ?_
  refine V_istore (L' := lwV b0 D a u 0) dL_law_21 rfl rfl ?_
  refine V.widen (k' := 1000 + 0) (n' := 20000 + 6 * 0) (Nat.le_of_ble_eq_true rfl) (Nat.le_of_ble_eq_true rfl) ?_
  refine V.perm (v_beg (cD w D b1 b2 (0, fun _ => 0) (0, 0, 0, 0, 0, 0, 0) G0 Q0 (0, fun _ _ => 0) B0 B0) (cG w a 0 (0, 0, 0, 0, 0, 0, 0, 0, 0, 0) 0 0 0 (fun _ _ => 0)) (lwU w u (fun _ => 0))) ?_
  exact law_loop hst hL (L + 1) 0 (fun _ => 0) _ _ (by omega) (Nat.zero_le L) (LR.of st_empty)
theorem whole_start {p : Program} {e : Env} {s : State} {m : MethodId} {below : List Frame} {meth : Method} {c : Code} (l : Launch) (hflags : l.flags = flags0) {b L : Nat} {xs : Nat → Int32} (hL : L ≤ 3072) (C0 : lw_At p s m meth c b L xs) : W p l e room_1 s m #[Value.ref b] below meth c s.heap [] 0 0 (lw_Z below #[Value.ref b] s) (entryFrame m ([Value.ref b] : List Value).toArray 7) := by
  obtain ⟨hx, hb, hr, hml, hown, hts, hX, hbl, hlocks, hgv⟩ := id C0
  obtain ⟨ids, str, hK, hvX⟩ := st_world l hts hgv
  have h := law_start (w := (l, ids, str)) (nm := meth.name) (b0 := b) (L := L) (xs := xs) (st_flags hflags) hL
  have hl := lv_entry ([.ref b]) (n := 7) (Nat.le_of_ble_eq_true rfl)
  rw [lg_entry_eq]
  exact h p e s m #[.ref b] below meth c (fun q => s.heap.size ≤ q) s.heap [] _ ⟨hx, hb, hr, hml, hown, fun x hx => hts x (TT_sub hx), hlocks, hK, hvX, fun q hq => hq, rfl⟩ ⟨rfl, hX, hbl, fun q hq => hq⟩ (fun k q h => by simp at h) ⟨fun i j x y hi => by simp at hi, fun k q h => by simp at h⟩ va_S.rf hl
