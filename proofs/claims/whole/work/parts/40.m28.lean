noncomputable def wl (tx lt : Nat → Int32) (fd fz mz az : Nat) : Nat := frst (fun k => ¬ nxt tx fd (az + k) = ifc (k < mz) (lt (fz + k)) 32) (mz + 1)
set_option maxRecDepth 100000 in
set_option maxHeartbeats 400000 in
theorem c_X9_takesWord {g : Gl} {I : Ty} {L : TL} {na nt ni m : Nat} {nl : Nat → Nat} (fz : Nat) (mz : Nat) (az : Nat) (dz : Int32) (sz wz : Nat) (oz : Int32) (sn ws : Nat → Int32) (fd : Nat) (hf : fd ≤ 100) (hfd : I 65 12 = nI fd) (tx : Nat → Int32) (htx : I 74 = tx) (ha : az + mz ≤ 1000) (hm : fz + mz ≤ 12) (lt : Nat → Int32) (hlt : I 82 = lt) : Ct g yX9_takesWord cX9_takesWord 4 (some .boolean) 2 0 0 [.ref (g.1 + 65), .int (nI fz), .int (nI mz)] (pI I (nI az) dz (nI sz) (nI wz) oz sn ws) L (RT na nt ni) (NT nl) (NB + m) (Ps (some (.int (bq (wl tx lt fd fz mz az = mz + 1)))) (pI I (nI (az + wl tx lt fd fz mz az)) dz (nI sz) (nI wz) oz sn ws) L (RT na nt ni) (NT nl) (NB + m)) := by
  refine ct_of (by decide +kernel) (Nat.le_of_ble_eq_true rfl) (fun F hnm hr => ?_)
  clear hnm
  show V g F cX9_takesWord RX9 4 2 0 [(0, .ref (g.1 + 65)), (1, .int (nI fz)), (2, .int (nI mz))] [] (pI I (nI az) dz (nI sz) (nI wz) oz sn ws) L (RT na nt ni) (NT nl) (NB + m) 0 0
  refine v_iconst (v := 0) dX9_takesWord_0 (by decide) ?_
  refine v_istore_n (lv2 := [(3, .int 0), (0, .ref (g.1 + 65)), (1, .int (nI fz)), (2, .int (nI mz))]) dX9_takesWord_1 rfl (by decide) rfl ?_
  refine v_lv (lv2 := [(3, .int (nI 0)), (0, .ref (g.1 + 65)), (1, .int (nI fz)), (2, .int (nI mz))]) (by rfl) ?_
  refine v_I (I2 := (pI I (nI (az + 0)) dz (nI sz) (nI wz) oz sn ws)) (by rfl) ?_
  refine dloop (P := fun i => (∀ j, j < i → ¬ ¬ nxt tx fd (az + j) = ifc (j < mz) (lt (fz + j)) 32) → V g F cX9_takesWord RX9 4 2 2 [(3, .int (nI i)), (0, .ref (g.1 + 65)), (1, .int (nI fz)), (2, .int (nI mz))] [] (pI I (nI (az + i)) dz (nI sz) (nI wz) oz sn ws) L (RT na nt ni) (NT nl) (NB + m) 0 0) mz ?_ ?_ 0 (Nat.zero_le _) (fun j h => absurd h (Nat.not_lt_zero j))
  · intro hinv
    refine v_iload_n dX9_takesWord_2 rfl 0 rfl ?_
    refine v_iload_n dX9_takesWord_3 rfl 3 rfl ?_
    refine v_icmp_geN (a := mz) (b := mz) (tgt := 30) dX9_takesWord_4 (by decide) rfl rfl (by omega) (by omega) (fun h1 => ?_) (fun h => by exfalso; omega)
    refine v_aload_n dX9_takesWord_30 rfl 1 rfl ?_
    refine v_bipush (v := 32) dX9_takesWord_31 (by decide) ?_
    refine v_callVi (As := [.int 32]) (rest := []) lk_X9_253 (c_X9_takes (I := I) 32 (az + mz) dz sz wz oz sn ws fd hf hfd tx htx (by omega)) dX9_takesWord_33 rfl (ltn rfl) rfl rfl (Nat.le_of_ble_eq_true rfl) (by decide) ?_
    by_cases hq : nxt tx fd (az + mz) = 32
    · exact v_zret hr dX9_takesWord_36 (by first | rfl | exact nbq) ⟨congrArg (fun z => some (Value.int z)) (by unfold wl; rw [frst_eq (i := mz + 1) (Nat.le_refl _) (Or.inl rfl) (ks_step hinv (fun q => q (by rw [ifc_f (Nat.lt_irrefl _)]; exact hq))), bq_t hq, bq_t rfl]), (by unfold wl; rw [frst_eq (i := mz + 1) (Nat.le_refl _) (Or.inl rfl) (ks_step hinv (fun q => q (by rw [ifc_f (Nat.lt_irrefl _)]; exact hq))), ifc_t hq, Nat.add_assoc]), rfl, rfl, rfl, rfl⟩
    · exact v_zret hr dX9_takesWord_36 (by first | rfl | exact nbq) ⟨congrArg (fun z => some (Value.int z)) (by unfold wl; rw [frst_eq (i := mz) (by omega) (Or.inr (by rw [ifc_f (Nat.lt_irrefl _)]; exact hq)) hinv, bq_f hq, bq_f (by omega)]), (by unfold wl; rw [frst_eq (i := mz) (by omega) (Or.inr (by rw [ifc_f (Nat.lt_irrefl _)]; exact hq)) hinv, ifc_f hq]), rfl, rfl, rfl, rfl⟩
  · intro i hi ih
    intro hinv
    refine v_iload_n dX9_takesWord_2 rfl 0 rfl ?_
    refine v_iload_n dX9_takesWord_3 rfl 3 rfl ?_
    refine v_icmp_geN (a := i) (b := mz) (tgt := 30) dX9_takesWord_4 (by decide) rfl rfl (by omega) (by omega) (fun h => by exfalso; omega) (fun h2 => ?_)
    refine v_aload_n dX9_takesWord_7 rfl 1 rfl ?_
    refine v_aload_n dX9_takesWord_8 rfl 1 rfl ?_
    refine v_get (v := .ref (g.1 + 82)) fa_X9_89 dX9_takesWord_9 rfl (by decide) (ltn rfl) rfl ?_
    refine v_iload_n dX9_takesWord_12 rfl 2 rfl ?_
    refine v_iload_n dX9_takesWord_13 rfl 0 rfl ?_
    refine v_iadd dX9_takesWord_14 ?_
    refine v_is (nx_add rfl rfl) ?_
    refine v_iaload (len := 12) (j := (fz + i)) dX9_takesWord_15 rfl (ltn rfl) rfl (by decide) rfl (by omega) ?_
    refine v_is (y := lt (fz + i)) (by exact congrFun hlt _) ?_
    refine v_callVi (As := [.int (lt (fz + i))]) (rest := []) lk_X9_253 (c_X9_takes (I := I) (lt (fz + i)) (az + i) dz sz wz oz sn ws fd hf hfd tx htx (by omega)) dX9_takesWord_16 rfl (ltn rfl) rfl rfl (Nat.le_of_ble_eq_true rfl) (by decide) ?_
    refine v_ifb_ne (tgt := 24) dX9_takesWord_19 (by decide) (fun h3 => ?_) (fun h3 => ?_)
    · -- (nxt tx fd (az + i) = (lt (fz + i)))
      refine v_I (I2 := (pI I (nI ((az + i) + 1)) dz (nI sz) (nI wz) oz sn ws)) (by rw [ifc_t h3]) ?_
      refine v_inc (v := nI (i + 1)) (lv2 := [(3, .int (nI (i + 1))), (0, .ref (g.1 + 65)), (1, .int (nI fz)), (2, .int (nI mz))]) dX9_takesWord_24 0 rfl (nx_inc rfl) (by decide) rfl ?_
      refine v_goto (tgt := 2) dX9_takesWord_27 (by decide) ?_
      refine v_I (I2 := (pI I (nI (az + (i + 1))) dz (nI sz) (nI wz) oz sn ws)) (by rfl) ?_
      exact ih (ks_step hinv (fun q => q (by rw [ifc_t hi]; exact h3)))
    · -- not (nxt tx fd (az + i) = (lt (fz + i)))
      refine v_I (I2 := (pI I (nI (az + i)) dz (nI sz) (nI wz) oz sn ws)) (by rw [ifc_f h3]) ?_
      refine v_iconst (v := 0) dX9_takesWord_22 (by decide) ?_
      exact v_zret hr dX9_takesWord_23 (by first | rfl | exact nbq) (⟨congrArg (fun z => some (Value.int z)) (by unfold wl; rw [frst_eq (i := i) (by omega) (Or.inr (by rw [ifc_t hi]; exact h3)) hinv, bq_f (by omega)]), (by unfold wl; rw [frst_eq (i := i) (by omega) (Or.inr (by rw [ifc_t hi]; exact h3)) hinv]), rfl, rfl, rfl, rfl⟩)
noncomputable def d1V (tx : Nat → Int32) (fd a : Nat) : Int32 := 10 * 0 + nxt tx fd a - 48
noncomputable def d2V (tx : Nat → Int32) (fd a : Nat) : Int32 := 10 * d1V tx fd a + nxt tx fd (a + 1) - 48
noncomputable def tnA (tx : Nat → Int32) (fd a : Nat) : Nat := ifc (digP (nxt tx fd a)) (ifc (digP (nxt tx fd (a + 1))) (a + 2) (a + 1)) a
noncomputable def tnD (tx : Nat → Int32) (fd a : Nat) (dz : Int32) : Int32 := ifc (digP (nxt tx fd a)) (ifc (digP (nxt tx fd (a + 1))) (d2V tx fd a) (d1V tx fd a)) dz
set_option maxRecDepth 100000 in
set_option maxHeartbeats 400000 in
theorem c_X9_takesNumber {g : Gl} {I : Ty} {L : TL} {na nt ni m : Nat} {nl : Nat → Nat}  (az : Nat) (dz : Int32) (sz wz : Nat) (oz : Int32) (sn ws : Nat → Int32) (fd : Nat) (hf : fd ≤ 100) (hfd : I 65 12 = nI fd) (tx : Nat → Int32) (htx : I 74 = tx) (ha : az ≤ 900) : Ct g yX9_takesNumber cX9_takesNumber 2 (some .boolean) 3 0 0 [.ref (g.1 + 65)] (pI I (nI az) dz (nI sz) (nI wz) oz sn ws) L (RT na nt ni) (NT nl) (NB + m) (Ps (some (.int (bq (digP (nxt tx fd az))))) (pI I (nI (tnA tx fd az)) (tnD tx fd az dz) (nI sz) (nI wz) oz sn ws) L (RT na nt ni) (NT nl) (NB + m)) := by
  refine ct_of (by decide +kernel) (Nat.le_of_ble_eq_true rfl) (fun F hnm hr => ?_)
  clear hnm
  show V g F cX9_takesNumber RX9 2 3 0 [(0, .ref (g.1 + 65))] [] (pI I (nI az) dz (nI sz) (nI wz) oz sn ws) L (RT na nt ni) (NT nl) (NB + m) 0 0
  refine v_aload_n dX9_takesNumber_0 rfl 0 rfl ?_
  refine v_callVi (As := []) (rest := []) lk_X9_256 (c_X9_isDigit (I := I) az dz sz wz oz sn ws fd hf hfd tx htx (by omega)) dX9_takesNumber_1 rfl (ltn rfl) rfl rfl (Nat.le_of_ble_eq_true rfl) (by decide) ?_
  refine v_ifb_ne (tgt := 9) dX9_takesNumber_4 (by decide) (fun h1 => ?_) (fun h1 => ?_)
  · -- (digP (nxt tx fd az))
    refine v_aload_n dX9_takesNumber_9 rfl 0 rfl ?_
    refine v_iconst (v := 0) dX9_takesNumber_10 (by decide) ?_
    refine v_puti pa_X9_53 dX9_takesNumber_11 rfl (by decide) (ltn rfl) (by show 14 < 73; decide) rfl ?_
    refine v_I (I2 := (pI I (nI az) 0 (nI sz) (nI wz) oz sn ws)) (by first | rfl | (simp only [pI_at, pI_dg, pI_sg, pI_wt, pI_op, pI_sn, pI_ws]; done) | (rw [pI_at])) ?_
    refine v_iconst (v := 0) dX9_takesNumber_14 (by decide) ?_
    refine v_istore_n (lv2 := [(1, .int 0), (0, .ref (g.1 + 65))]) dX9_takesNumber_15 rfl (by decide) rfl ?_
    refine v_iload_n dX9_takesNumber_16 rfl 0 rfl ?_
    refine v_iconst (v := 2) dX9_takesNumber_17 (by decide) ?_
    refine v_icmp_ge (tgt := 63) dX9_takesNumber_18 (by decide) (fun h2 => by first | exact absurd h2 (by decide) | exact absurd (by decide) h2) (fun _ => ?_)
    refine v_aload_n dX9_takesNumber_21 rfl 1 rfl ?_
    refine v_callVi (As := []) (rest := []) lk_X9_256 (c_X9_isDigit (I := I) az 0 sz wz oz sn ws fd hf hfd tx htx (by omega)) dX9_takesNumber_22 rfl (ltn rfl) rfl rfl (Nat.le_of_ble_eq_true rfl) (by decide) ?_
    refine v_is (bq_t h1) ?_
    refine v_if_eq (tgt := 63) dX9_takesNumber_25 (by decide) (fun h3 => by first | exact absurd h3 (by decide) | exact absurd (by decide) h3) (fun _ => ?_)
    refine v_aload_n dX9_takesNumber_28 rfl 1 rfl ?_
    refine v_bipush (v := 10) dX9_takesNumber_29 (by decide) ?_
    refine v_aload_n dX9_takesNumber_31 rfl 1 rfl ?_
    refine v_get (v := .int ((pI I (nI az) 0 (nI sz) (nI wz) oz sn ws) 65 14)) fa_X9_53 dX9_takesNumber_32 rfl (by decide) (ltn rfl) rfl ?_
    refine v_is (y := 0) (by rfl) ?_
    refine v_imul dX9_takesNumber_35 ?_
    refine v_aload_n dX9_takesNumber_36 rfl 1 rfl ?_
    refine v_callVi (As := []) (rest := [.int (10 * 0), .ref (g.1 + 65)]) lk_X9_249 (c_X9_next (I := I) az 0 sz wz oz sn ws fd hf hfd tx htx (by omega)) dX9_takesNumber_37 rfl (ltn rfl) rfl rfl (Nat.le_of_ble_eq_true rfl) (by decide) ?_
    refine v_iadd dX9_takesNumber_40 ?_
    refine v_bipush (v := 48) dX9_takesNumber_41 (by decide) ?_
    refine v_isub dX9_takesNumber_43 ?_
    refine v_puti pa_X9_53 dX9_takesNumber_44 rfl (by decide) (ltn rfl) (by show 14 < 73; decide) rfl ?_
    refine v_aload_n dX9_takesNumber_47 rfl 1 rfl ?_
    refine v_dup dX9_takesNumber_48 rfl ?_
    refine v_get (v := .int ((pI I (nI az) 0 (nI sz) (nI wz) oz sn ws) 65 13)) fa_X9_50 dX9_takesNumber_49 rfl (by decide) (ltn rfl) rfl ?_
    refine v_is (y := nI az) (by rfl) ?_
    refine v_iconst (v := 1) dX9_takesNumber_52 (by decide) ?_
    refine v_iadd dX9_takesNumber_53 ?_
    refine v_is (nx_add rfl rfl) ?_
    refine v_puti pa_X9_50 dX9_takesNumber_54 rfl (by decide) (ltn rfl) (by show 13 < 73; decide) rfl ?_
    refine v_I (I2 := (pI I (nI (az + 1)) (10 * 0 + nxt tx fd az - 48) (nI sz) (nI wz) oz sn ws)) (by first | rfl | (simp only [pI_at, pI_dg, pI_sg, pI_wt, pI_op, pI_sn, pI_ws]; done) | (rw [pI_at])) ?_
    refine v_inc (v := 1) (lv2 := [(1, .int 1), (0, .ref (g.1 + 65))]) dX9_takesNumber_57 0 rfl (by decide) (by decide) rfl ?_
    refine v_goto (tgt := 16) dX9_takesNumber_60 (by decide) ?_
    refine v_iload_n dX9_takesNumber_16 rfl 0 rfl ?_
    refine v_iconst (v := 2) dX9_takesNumber_17 (by decide) ?_
    refine v_icmp_ge (tgt := 63) dX9_takesNumber_18 (by decide) (fun h4 => by first | exact absurd h4 (by decide) | exact absurd (by decide) h4) (fun _ => ?_)
    refine v_aload_n dX9_takesNumber_21 rfl 1 rfl ?_
    refine v_callVi (As := []) (rest := []) lk_X9_256 (c_X9_isDigit (I := I) (az + 1) (10 * 0 + nxt tx fd az - 48) sz wz oz sn ws fd hf hfd tx htx (by omega)) dX9_takesNumber_22 rfl (ltn rfl) rfl rfl (Nat.le_of_ble_eq_true rfl) (by decide) ?_
    refine v_ifb_eq (tgt := 63) dX9_takesNumber_25 (by decide) (fun h5 => ?_) (fun h5 => ?_)
    · -- not (digP (nxt tx fd (az + 1)))
      refine v_iconst (v := 1) dX9_takesNumber_63 (by decide) ?_
      exact v_zret hr dX9_takesNumber_64 (by first | rfl | exact nbq) (⟨congrArg (fun z => some (Value.int z)) (by rw [bq_t h1]), (by unfold tnA tnD; simp only [ifc_t h1, ifc_f h5]; try rfl), rfl, rfl, rfl, rfl⟩)
    · -- (digP (nxt tx fd (az + 1)))
      refine v_aload_n dX9_takesNumber_28 rfl 1 rfl ?_
      refine v_bipush (v := 10) dX9_takesNumber_29 (by decide) ?_
      refine v_aload_n dX9_takesNumber_31 rfl 1 rfl ?_
      refine v_get (v := .int ((pI I (nI (az + 1)) (10 * 0 + nxt tx fd az - 48) (nI sz) (nI wz) oz sn ws) 65 14)) fa_X9_53 dX9_takesNumber_32 rfl (by decide) (ltn rfl) rfl ?_
      refine v_is (y := (10 * 0 + nxt tx fd az - 48)) (by rfl) ?_
      refine v_imul dX9_takesNumber_35 ?_
      refine v_aload_n dX9_takesNumber_36 rfl 1 rfl ?_
      refine v_callVi (As := []) (rest := [.int (10 * (10 * 0 + nxt tx fd az - 48)), .ref (g.1 + 65)]) lk_X9_249 (c_X9_next (I := I) (az + 1) (10 * 0 + nxt tx fd az - 48) sz wz oz sn ws fd hf hfd tx htx (by omega)) dX9_takesNumber_37 rfl (ltn rfl) rfl rfl (Nat.le_of_ble_eq_true rfl) (by decide) ?_
      refine v_iadd dX9_takesNumber_40 ?_
      refine v_bipush (v := 48) dX9_takesNumber_41 (by decide) ?_
      refine v_isub dX9_takesNumber_43 ?_
      refine v_puti pa_X9_53 dX9_takesNumber_44 rfl (by decide) (ltn rfl) (by show 14 < 73; decide) rfl ?_
      refine v_aload_n dX9_takesNumber_47 rfl 1 rfl ?_
      refine v_dup dX9_takesNumber_48 rfl ?_
      refine v_get (v := .int ((pI I (nI (az + 1)) (10 * 0 + nxt tx fd az - 48) (nI sz) (nI wz) oz sn ws) 65 13)) fa_X9_50 dX9_takesNumber_49 rfl (by decide) (ltn rfl) rfl ?_
      refine v_is (y := nI (az + 1)) (by rfl) ?_
      refine v_iconst (v := 1) dX9_takesNumber_52 (by decide) ?_
      refine v_iadd dX9_takesNumber_53 ?_
      refine v_is (nx_add rfl rfl) ?_
      refine v_puti pa_X9_50 dX9_takesNumber_54 rfl (by decide) (ltn rfl) (by show 13 < 73; decide) rfl ?_
      refine v_I (I2 := (pI I (nI (az + 1 + 1)) (10 * (10 * 0 + nxt tx fd az - 48) + nxt tx fd (az + 1) - 48) (nI sz) (nI wz) oz sn ws)) (by first | rfl | (simp only [pI_at, pI_dg, pI_sg, pI_wt, pI_op, pI_sn, pI_ws]; done) | (rw [pI_at])) ?_
      refine v_inc (v := 2) (lv2 := [(1, .int 2), (0, .ref (g.1 + 65))]) dX9_takesNumber_57 0 rfl (by decide) (by decide) rfl ?_
      refine v_goto (tgt := 16) dX9_takesNumber_60 (by decide) ?_
      refine v_iload_n dX9_takesNumber_16 rfl 0 rfl ?_
      refine v_iconst (v := 2) dX9_takesNumber_17 (by decide) ?_
      refine v_icmp_ge (tgt := 63) dX9_takesNumber_18 (by decide) (fun _ => ?_) (fun h6 => by first | exact absurd h6 (by decide) | exact absurd (by decide) h6)
      refine v_iconst (v := 1) dX9_takesNumber_63 (by decide) ?_
      exact v_zret hr dX9_takesNumber_64 (by first | rfl | exact nbq) (⟨congrArg (fun z => some (Value.int z)) (by rw [bq_t h1]), (by unfold tnA tnD; simp only [ifc_t h1, ifc_t h5]; try rfl), rfl, rfl, rfl, rfl⟩)
  · -- not (digP (nxt tx fd az))
    refine v_iconst (v := 0) dX9_takesNumber_7 (by decide) ?_
    exact v_zret hr dX9_takesNumber_8 (by first | rfl | exact nbq) (⟨congrArg (fun z => some (Value.int z)) (by rw [bq_f h1]), (by unfold tnA tnD; simp only [ifc_f h1]; try rfl), rfl, rfl, rfl, rfl⟩)
