section
variable (tx : Nat → Int32) (fd a : Nat) (dz : Int32)
def relP (x : Int32) : Prop := 60 ≤ x ∧ x ≤ 62
def tstC : Prop := ¬ plc (nxt tx fd a) < 0 ∧ relP (nxt tx fd (a + 1))
def tstOK : Prop := tstC tx fd a ∧ digP (nxt tx fd (a + 1 + 1))
noncomputable def tstA : Nat := ifc (plc (nxt tx fd a) < 0) a (ifc (relP (nxt tx fd (a + 1))) (tnA tx fd (a + 1 + 1)) (a + 1))
noncomputable def tstD : Int32 := ifc (tstC tx fd a) (tnD tx fd (a + 1 + 1) dz) dz
noncomputable def tstV : Int32 := 1000 * plc (nxt tx fd a) + 100 * (nxt tx fd (a + 1) - 60) + tnD tx fd (a + 1 + 1) dz
noncomputable def tstW (sz wz : Nat) (oz : Int32) (sn ws : Nat → Int32) : Nat × Nat × Int32 × (Nat → Int32) := ifc (tstOK tx fd a) (whl ws wz (sz + 1) oz (va_up sn sz (tstV tx fd a dz))) (wz, sz, oz, sn)
end
set_option maxRecDepth 100000 in
set_option maxHeartbeats 400000 in
theorem c_X9_takesTest {g : Gl} {I : Ty} {L : TL} {na nt ni m : Nat} {nl : Nat → Nat}  (az : Nat) (dz : Int32) (sz wz : Nat) (oz : Int32) (sn ws : Nat → Int32) (fd : Nat) (hf : fd ≤ 100) (hfd : I 65 12 = nI fd) (tx : Nat → Int32) (htx : I 74 = tx) (ha : az ≤ 800) (hsw : tstOK tx fd az → sz + wz + 1 ≤ 600) (hww : wz ≤ 101) : Ct g yX9_takesTest cX9_takesTest 3 (some .boolean) 4 0 0 [.ref (g.1 + 65)] (pI I (nI az) dz (nI sz) (nI wz) oz sn ws) L (RT na nt ni) (NT nl) (NB + m) (Ps (some (.int (bq (tstOK tx fd az)))) (pI I (nI (tstA tx fd az)) (tstD tx fd az dz) (nI (tstW tx fd az dz sz wz oz sn ws).2.1) (nI (tstW tx fd az dz sz wz oz sn ws).1) (tstW tx fd az dz sz wz oz sn ws).2.2.1 (tstW tx fd az dz sz wz oz sn ws).2.2.2 ws) L (RT na nt ni) (NT nl) (NB + m)) := by
  refine ct_of (by decide +kernel) (Nat.le_of_ble_eq_true rfl) (fun F hnm hr => ?_)
  clear hnm
  show V g F cX9_takesTest RX9 3 4 0 [(0, .ref (g.1 + 65))] [] (pI I (nI az) dz (nI sz) (nI wz) oz sn ws) L (RT na nt ni) (NT nl) (NB + m) 0 0
  refine v_aload_n dX9_takesTest_0 rfl 0 rfl ?_
  refine v_aload_n dX9_takesTest_1 rfl 0 rfl ?_
  refine v_callVi (As := []) (rest := [.ref (g.1 + 65)]) lk_X9_249 (c_X9_next (I := I) az dz sz wz oz sn ws fd hf hfd tx htx (by omega)) dX9_takesTest_2 rfl (ltn rfl) rfl rfl (Nat.le_of_ble_eq_true rfl) (by decide) ?_
  refine v_callVi (As := [.int (nxt tx fd az)]) (rest := []) lk_X9_264 (c_X9_place (nxt tx fd az)) dX9_takesTest_5 rfl (ltn rfl) rfl rfl (Nat.le_of_ble_eq_true rfl) (by decide) ?_
  refine v_istore_n (lv2 := [(1, .int (plc (nxt tx fd az))), (0, .ref (g.1 + 65))]) dX9_takesTest_8 rfl (by decide) rfl ?_
  refine v_iload_n dX9_takesTest_9 rfl 0 rfl ?_
  refine v_if_ge (tgt := 15) dX9_takesTest_10 (by decide) (fun h2 => ?_) (fun h2 => ?_)
  · have hge := Int32.not_lt.mpr h2
    refine v_aload_n dX9_takesTest_15 rfl 1 rfl ?_
    refine v_dup dX9_takesTest_16 rfl ?_
    refine v_get (v := .int ((pI I (nI az) dz (nI sz) (nI wz) oz sn ws) 65 13)) fa_X9_50 dX9_takesTest_17 rfl (by decide) (ltn rfl) rfl ?_
    refine v_is (y := nI az) (by rfl) ?_
    refine v_iconst (v := 1) dX9_takesTest_20 (by decide) ?_
    refine v_iadd dX9_takesTest_21 ?_
    refine v_is (nx_add rfl rfl) ?_
    refine v_puti pa_X9_50 dX9_takesTest_22 rfl (by decide) (ltn rfl) (by show 13 < 73; decide) rfl ?_
    refine v_I (I2 := (pI I (nI (az + 1)) dz (nI sz) (nI wz) oz sn ws)) (by first | rfl | (simp only [pI_at, pI_dg, pI_sg, pI_wt, pI_op, pI_sn, pI_ws]; done) | (rw [pI_at])) ?_
    refine v_aload_n dX9_takesTest_25 rfl 1 rfl ?_
    refine v_callVi (As := []) (rest := []) lk_X9_249 (c_X9_next (I := I) (az + 1) dz sz wz oz sn ws fd hf hfd tx htx (by omega)) dX9_takesTest_26 rfl (ltn rfl) rfl rfl (Nat.le_of_ble_eq_true rfl) (by decide) ?_
    refine v_istore_n (lv2 := [(2, .int (nxt tx fd (az + 1))), (1, .int (plc (nxt tx fd az))), (0, .ref (g.1 + 65))]) dX9_takesTest_29 rfl (by decide) rfl ?_
    refine v_aload_n dX9_takesTest_30 rfl 2 rfl ?_
    refine v_iload_n dX9_takesTest_31 rfl 0 rfl ?_
    refine v_bipush (v := 60) dX9_takesTest_32 (by decide) ?_
    refine v_bipush (v := 62) dX9_takesTest_34 (by decide) ?_
    refine v_callVi (As := [.int (nxt tx fd (az + 1)), .int 60, .int 62]) (rest := []) lk_X9_237 (c_X9_in (nxt tx fd (az + 1)) 60 62) dX9_takesTest_36 rfl (ltn rfl) rfl rfl (Nat.le_of_ble_eq_true rfl) (by decide) ?_
    refine v_ifb_ne (tgt := 44) dX9_takesTest_39 (by decide) (fun h3 => ?_) (fun h3 => ?_)
    · -- (60 ≤ (nxt tx fd (az + 1)) ∧ (nxt tx fd (az + 1)) ≤ 62)
      have hrel : relP (nxt tx fd (az + 1)) := h3
      have hcc : (tstC tx fd az) := ⟨hge, hrel⟩
      refine v_aload_n dX9_takesTest_44 rfl 2 rfl ?_
      refine v_dup dX9_takesTest_45 rfl ?_
      refine v_get (v := .int ((pI I (nI (az + 1)) dz (nI sz) (nI wz) oz sn ws) 65 13)) fa_X9_50 dX9_takesTest_46 rfl (by decide) (ltn rfl) rfl ?_
      refine v_is (y := nI (az + 1)) (by rfl) ?_
      refine v_iconst (v := 1) dX9_takesTest_49 (by decide) ?_
      refine v_iadd dX9_takesTest_50 ?_
      refine v_is (nx_add rfl rfl) ?_
      refine v_puti pa_X9_50 dX9_takesTest_51 rfl (by decide) (ltn rfl) (by show 13 < 73; decide) rfl ?_
      refine v_I (I2 := (pI I (nI (az + 1 + 1)) dz (nI sz) (nI wz) oz sn ws)) (by first | rfl | (simp only [pI_at, pI_dg, pI_sg, pI_wt, pI_op, pI_sn, pI_ws]; done) | (rw [pI_at])) ?_
      refine v_aload_n dX9_takesTest_54 rfl 2 rfl ?_
      refine v_callVi (As := []) (rest := []) lk_X9_268 (c_X9_takesNumber (I := I) (az + 1 + 1) dz sz wz oz sn ws fd hf hfd tx htx (by omega)) dX9_takesTest_55 rfl (ltn rfl) rfl rfl (Nat.le_of_ble_eq_true rfl) (by decide) ?_
      refine v_ifb_ne (tgt := 63) dX9_takesTest_58 (by decide) (fun h4 => ?_) (fun h4 => ?_)
      · -- (digP (nxt tx fd (az + 1 + 1)))
        have hok : (tstOK tx fd az) := ⟨hcc, h4⟩
        have hsw := hsw hok
        refine v_aload_n dX9_takesTest_63 rfl 2 rfl ?_
        refine v_sipush (v := 1000) dX9_takesTest_64 (by decide) ?_
        refine v_iload_n dX9_takesTest_67 rfl 1 rfl ?_
        refine v_imul dX9_takesTest_68 ?_
        refine v_bipush (v := 100) dX9_takesTest_69 (by decide) ?_
        refine v_iload_n dX9_takesTest_71 rfl 0 rfl ?_
        refine v_bipush (v := 60) dX9_takesTest_72 (by decide) ?_
        refine v_isub dX9_takesTest_74 ?_
        refine v_imul dX9_takesTest_75 ?_
        refine v_iadd dX9_takesTest_76 ?_
        refine v_aload_n dX9_takesTest_77 rfl 2 rfl ?_
        refine v_get (v := .int ((pI I (nI (tnA tx fd (az + 1 + 1))) (tnD tx fd (az + 1 + 1) dz) (nI sz) (nI wz) oz sn ws) 65 14)) fa_X9_53 dX9_takesTest_78 rfl (by decide) (ltn rfl) rfl ?_
        refine v_is (y := (tnD tx fd (az + 1 + 1) dz)) (by rfl) ?_
        refine v_iadd dX9_takesTest_81 ?_
        refine v_callVv (As := [.int (((1000 * (plc (nxt tx fd az))) + (100 * ((nxt tx fd (az + 1)) - 60))) + (tnD tx fd (az + 1 + 1) dz))]) (rest := []) lk_X9_260 (c_X9_emits (I := I) (((1000 * (plc (nxt tx fd az))) + (100 * ((nxt tx fd (az + 1)) - 60))) + (tnD tx fd (az + 1 + 1) dz)) (tnA tx fd (az + 1 + 1)) (tnD tx fd (az + 1 + 1) dz) sz wz oz sn ws fd hf hfd tx htx (by omega)) dX9_takesTest_82 rfl (ltn rfl) rfl rfl (Nat.le_of_ble_eq_true rfl) (by decide) ?_
        refine v_aload_n dX9_takesTest_85 rfl 2 rfl ?_
        refine v_callVv (As := []) (rest := []) lk_X9_271 (c_X9_whole (I := I) (tnA tx fd (az + 1 + 1)) (tnD tx fd (az + 1 + 1) dz) (sz + 1) wz oz (va_up sn sz (((1000 * (plc (nxt tx fd az))) + (100 * ((nxt tx fd (az + 1)) - 60))) + (tnD tx fd (az + 1 + 1) dz))) ws fd hf hfd tx htx (by omega) (by omega)) dX9_takesTest_86 rfl (ltn rfl) rfl rfl (Nat.le_of_ble_eq_true rfl) (by decide) ?_
        refine v_iconst (v := 1) dX9_takesTest_89 (by decide) ?_
        exact v_zret hr dX9_takesTest_90 (by first | rfl | exact nbq) (⟨congrArg (fun z => some (Value.int z)) (by rw [bq_t hok]), (by unfold tstA tstD tstW; rw [ifc_f hge, ifc_t hrel, ifc_t hcc, ifc_t hok]; rfl), rfl, rfl, rfl, rfl⟩)
      · -- not (digP (nxt tx fd (az + 1 + 1)))
        refine v_iconst (v := 0) dX9_takesTest_61 (by decide) ?_
        exact v_zret hr dX9_takesTest_62 (by first | rfl | exact nbq) (⟨congrArg (fun z => some (Value.int z)) (by rw [bq_f (show ¬ (tstOK tx fd az) from fun q => h4 q.2)]), (by unfold tstA tstD tstW; rw [ifc_f hge, ifc_t hrel, ifc_t hcc, ifc_f (show ¬ (tstOK tx fd az) from fun q => h4 q.2)]), rfl, rfl, rfl, rfl⟩)
    · -- not (60 ≤ (nxt tx fd (az + 1)) ∧ (nxt tx fd (az + 1)) ≤ 62)
      have hrel : ¬ relP (nxt tx fd (az + 1)) := h3
      refine v_iconst (v := 0) dX9_takesTest_42 (by decide) ?_
      exact v_zret hr dX9_takesTest_43 (by first | rfl | exact nbq) (⟨congrArg (fun z => some (Value.int z)) (by rw [bq_f (show ¬ (tstOK tx fd az) from fun q => hrel q.1.2)]), (by unfold tstA tstD tstW; rw [ifc_f hge, ifc_f hrel, ifc_f (show ¬ (tstC tx fd az) from fun q => hrel q.2), ifc_f (show ¬ (tstOK tx fd az) from fun q => hrel q.1.2)]), rfl, rfl, rfl, rfl⟩)
  · refine v_iconst (v := 0) dX9_takesTest_13 (by decide) ?_
    exact v_zret hr dX9_takesTest_14 (by first | rfl | exact nbq) (⟨congrArg (fun z => some (Value.int z)) (by rw [bq_f (show ¬ (tstOK tx fd az) from fun q => q.1.1 (Int32.not_le.mp h2))]), (by unfold tstA tstD tstW; rw [ifc_t (Int32.not_le.mp h2), ifc_f (show ¬ (tstC tx fd az) from fun q => q.1 (Int32.not_le.mp h2)), ifc_f (show ¬ (tstOK tx fd az) from fun q => q.1.1 (Int32.not_le.mp h2))]), rfl, rfl, rfl, rfl⟩)
