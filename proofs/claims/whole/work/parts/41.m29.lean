noncomputable def whl (ws : Nat → Int32) : Nat → Nat → Int32 → (Nat → Int32) → Nat × Nat × Int32 × (Nat → Int32)
  | 0, sg, op, sn => (0, sg, op, sn)
  | w + 1, sg, op, sn => ifc (ws w = 33) (whl ws w (sg + 1) (op - 1) (va_up sn sg (-33))) (w + 1, sg, op, sn)
noncomputable def stl (ws : Nat → Int32) (s : Int32) : Nat → Nat → (Nat → Int32) → Nat × Nat × (Nat → Int32)
  | 0, sg, sn => (0, sg, sn)
  | w + 1, sg, sn => ifc (ws w = 38 ∨ ws w = 124 ∧ ¬ s = 38) (stl ws s w (sg + 1) (va_up sn sg (-(ws w)))) (w + 1, sg, sn)
set_option maxRecDepth 100000 in
set_option maxHeartbeats 400000 in
theorem c_X9_whole {g : Gl} {I : Ty} {L : TL} {na nt ni m : Nat} {nl : Nat → Nat}  (az : Nat) (dz : Int32) (sz wz : Nat) (oz : Int32) (sn ws : Nat → Int32) (fd : Nat) (hf : fd ≤ 100) (hfd : I 65 12 = nI fd) (tx : Nat → Int32) (htx : I 74 = tx) (hsw : sz + wz ≤ 600) (hww : wz ≤ 101) : Ct g yX9_whole cX9_whole 1 none 1 0 0 [.ref (g.1 + 65)] (pI I (nI az) dz (nI sz) (nI wz) oz sn ws) L (RT na nt ni) (NT nl) (NB + m) (Ps none (pI I (nI az) dz (nI (whl ws wz sz oz sn).2.1) (nI (whl ws wz sz oz sn).1) (whl ws wz sz oz sn).2.2.1 (whl ws wz sz oz sn).2.2.2 ws) L (RT na nt ni) (NT nl) (NB + m)) := by
  refine ct_of (by decide +kernel) (Nat.le_of_ble_eq_true rfl) (fun F hnm hr => ?_)
  clear hnm
  show V g F cX9_whole RX9 1 1 0 [(0, .ref (g.1 + 65))] [] (pI I (nI az) dz (nI sz) (nI wz) oz sn ws) L (RT na nt ni) (NT nl) (NB + m) 0 0
  have key : ∀ (wk : Nat) (sk : Nat) (ok : Int32) (nk : Nat → Int32), sk + wk ≤ 600 → wk ≤ 101 → whl ws wk sk ok nk = whl ws wz sz oz sn → V g F cX9_whole RX9 1 1 0 [(0, .ref (g.1 + 65))] [] (pI I (nI az) dz (nI sk) (nI wk) ok nk ws) L (RT na nt ni) (NT nl) (NB + m) 0 0 := by
    intro wk
    induction wk with
    | zero =>
      intro sk ok nk hk1 hk2 hwe
      refine v_aload_n dX9_whole_0 rfl 0 rfl ?_
      refine v_get (v := .int ((pI I (nI az) dz (nI sk) (nI 0) ok nk ws) 65 24)) fa_X9_83 dX9_whole_1 rfl (by decide) (ltn rfl) rfl ?_
      refine v_is (y := nI 0) (by rfl) ?_
      refine v_if_leN (a := 0) (tgt := 52) dX9_whole_4 (by decide) rfl (by omega) (fun h1 => ?_) (fun h => by exfalso; omega)
      exact v_vret hr dX9_whole_52 (⟨rfl, (by rw [← hwe]; rfl), rfl, rfl, rfl, rfl⟩)
    | succ wk ih =>
      intro sk ok nk hk1 hk2 hwe
      refine v_aload_n dX9_whole_0 rfl 0 rfl ?_
      refine v_get (v := .int ((pI I (nI az) dz (nI sk) (nI (wk + 1)) ok nk ws) 65 24)) fa_X9_83 dX9_whole_1 rfl (by decide) (ltn rfl) rfl ?_
      refine v_is (y := nI (wk + 1)) (by rfl) ?_
      refine v_if_leN (a := (wk + 1)) (tgt := 52) dX9_whole_4 (by decide) rfl (by omega) (fun h => by exfalso; omega) (fun h2 => ?_)
      refine v_aload_n dX9_whole_7 rfl 0 rfl ?_
      refine v_get (v := .ref (g.1 + 81)) fa_X9_77 dX9_whole_8 rfl (by decide) (ltn rfl) rfl ?_
      refine v_aload_n dX9_whole_11 rfl 0 rfl ?_
      refine v_get (v := .int ((pI I (nI az) dz (nI sk) (nI (wk + 1)) ok nk ws) 65 24)) fa_X9_83 dX9_whole_12 rfl (by decide) (ltn rfl) rfl ?_
      refine v_is (y := nI (wk + 1)) (by rfl) ?_
      refine v_iconst (v := 1) dX9_whole_15 (by decide) ?_
      refine v_isub dX9_whole_16 ?_
      refine v_is (nx_sub (a := (wk + 1)) (b := 1) rfl rfl (by omega)) ?_
      refine v_is (y := nI wk) rfl ?_
      refine v_iaload (len := 101) (j := wk) dX9_whole_17 rfl (ltn rfl) rfl (by decide) rfl (by omega) ?_
      refine v_is (y := ws wk) (by rfl) ?_
      refine v_bipush (v := 33) dX9_whole_18 (by decide) ?_
      refine v_icmp_ne (tgt := 52) dX9_whole_20 (by decide) (fun h4 => ?_) (fun h4 => ?_)
      · exact v_vret hr dX9_whole_52 (⟨rfl, (by rw [← hwe, whl, ifc_f h4]), rfl, rfl, rfl, rfl⟩)
      · refine v_aload_n dX9_whole_23 rfl 0 rfl ?_
        refine v_bipush (v := (-33)) dX9_whole_24 (by decide) ?_
        refine v_callVv (As := [.int (-33)]) (rest := []) lk_X9_260 (c_X9_emits (I := I) (-33) az dz sk (wk + 1) ok nk ws fd hf hfd tx htx (by omega)) dX9_whole_26 rfl (ltn rfl) rfl rfl (Nat.le_of_ble_eq_true rfl) (by decide) ?_
        refine v_aload_n dX9_whole_29 rfl 0 rfl ?_
        refine v_dup dX9_whole_30 rfl ?_
        refine v_get (v := .int ((pI I (nI az) dz (nI (sk + 1)) (nI (wk + 1)) ok (va_up nk sk (-33)) ws) 65 24)) fa_X9_83 dX9_whole_31 rfl (by decide) (ltn rfl) rfl ?_
        refine v_is (y := nI (wk + 1)) (by rfl) ?_
        refine v_iconst (v := 1) dX9_whole_34 (by decide) ?_
        refine v_isub dX9_whole_35 ?_
        refine v_is (nx_sub (a := (wk + 1)) (b := 1) rfl rfl (by omega)) ?_
        refine v_puti pa_X9_83 dX9_whole_36 rfl (by decide) (ltn rfl) (by show 24 < 73; decide) rfl ?_
        refine v_aload_n dX9_whole_39 rfl 0 rfl ?_
        refine v_dup dX9_whole_40 rfl ?_
        refine v_get (v := .int ((pI I (nI az) dz (nI (sk + 1)) (nI (wk + 1)) ok (va_up nk sk (-33)) ws) 65 25)) fa_X9_86 dX9_whole_41 rfl (by decide) (ltn rfl) rfl ?_
        refine v_is (y := ok) (by rfl) ?_
        refine v_iconst (v := 1) dX9_whole_44 (by decide) ?_
        refine v_isub dX9_whole_45 ?_
        refine v_puti pa_X9_86 dX9_whole_46 rfl (by decide) (ltn rfl) (by show 25 < 73; decide) rfl ?_
        refine v_goto (tgt := 0) dX9_whole_49 (by decide) ?_
        refine v_I (I2 := (pI I (nI az) dz (nI (sk + 1)) (nI wk) (ok - 1) (va_up nk sk (-33)) ws)) (by simp only [pI_at, pI_dg, pI_sg, pI_wt, pI_op, pI_sn, pI_ws]; rfl) ?_
        exact ih _ _ _ (by omega) (by omega) (by rw [← hwe, whl, ifc_t h4])
  exact key wz sz oz sn hsw hww rfl
set_option maxRecDepth 100000 in
set_option maxHeartbeats 400000 in
theorem c_X9_settle {g : Gl} {I : Ty} {L : TL} {na nt ni m : Nat} {nl : Nat → Nat} (cz : Int32) (az : Nat) (dz : Int32) (sz wz : Nat) (oz : Int32) (sn ws : Nat → Int32) (fd : Nat) (hf : fd ≤ 100) (hfd : I 65 12 = nI fd) (tx : Nat → Int32) (htx : I 74 = tx) (hsw : sz + wz ≤ 600) (hww : wz ≤ 101) : Ct g yX9_settle cX9_settle 2 none 1 0 0 [.ref (g.1 + 65), .int cz] (pI I (nI az) dz (nI sz) (nI wz) oz sn ws) L (RT na nt ni) (NT nl) (NB + m) (Ps none (pI I (nI az) dz (nI (stl ws cz wz sz sn).2.1) (nI (stl ws cz wz sz sn).1) oz (stl ws cz wz sz sn).2.2 ws) L (RT na nt ni) (NT nl) (NB + m)) := by
  refine ct_of (by decide +kernel) (Nat.le_of_ble_eq_true rfl) (fun F hnm hr => ?_)
  clear hnm
  show V g F cX9_settle RX9 2 1 0 [(0, .ref (g.1 + 65)), (1, .int cz)] [] (pI I (nI az) dz (nI sz) (nI wz) oz sn ws) L (RT na nt ni) (NT nl) (NB + m) 0 0
  have key : ∀ (wk : Nat) (sk : Nat) (nk : Nat → Int32), sk + wk ≤ 600 → wk ≤ 101 → stl ws cz wk sk nk = stl ws cz wz sz sn → V g F cX9_settle RX9 2 1 0 [(0, .ref (g.1 + 65)), (1, .int cz)] [] (pI I (nI az) dz (nI sk) (nI wk) oz nk ws) L (RT na nt ni) (NT nl) (NB + m) 0 0 := by
    intro wk
    induction wk with
    | zero =>
      intro sk nk hk1 hk2 hwe
      refine v_aload_n dX9_settle_0 rfl 0 rfl ?_
      refine v_get (v := .int ((pI I (nI az) dz (nI sk) (nI 0) oz nk ws) 65 24)) fa_X9_83 dX9_settle_1 rfl (by decide) (ltn rfl) rfl ?_
      refine v_is (y := nI 0) (by rfl) ?_
      refine v_if_leN (a := 0) (tgt := 72) dX9_settle_4 (by decide) rfl (by omega) (fun h1 => ?_) (fun h => by exfalso; omega)
      exact v_vret hr dX9_settle_72 (⟨rfl, (by rw [← hwe]; rfl), rfl, rfl, rfl, rfl⟩)
    | succ wk ih =>
      intro sk nk hk1 hk2 hwe
      refine v_aload_n dX9_settle_0 rfl 0 rfl ?_
      refine v_get (v := .int ((pI I (nI az) dz (nI sk) (nI (wk + 1)) oz nk ws) 65 24)) fa_X9_83 dX9_settle_1 rfl (by decide) (ltn rfl) rfl ?_
      refine v_is (y := nI (wk + 1)) (by rfl) ?_
      refine v_if_leN (a := (wk + 1)) (tgt := 72) dX9_settle_4 (by decide) rfl (by omega) (fun h => by exfalso; omega) (fun h2 => ?_)
      refine v_aload_n dX9_settle_7 rfl 0 rfl ?_
      refine v_get (v := .ref (g.1 + 81)) fa_X9_77 dX9_settle_8 rfl (by decide) (ltn rfl) rfl ?_
      refine v_aload_n dX9_settle_11 rfl 0 rfl ?_
      refine v_get (v := .int ((pI I (nI az) dz (nI sk) (nI (wk + 1)) oz nk ws) 65 24)) fa_X9_83 dX9_settle_12 rfl (by decide) (ltn rfl) rfl ?_
      refine v_is (y := nI (wk + 1)) (by rfl) ?_
      refine v_iconst (v := 1) dX9_settle_15 (by decide) ?_
      refine v_isub dX9_settle_16 ?_
      refine v_is (nx_sub (a := (wk + 1)) (b := 1) rfl rfl (by omega)) ?_
      refine v_is (y := nI wk) rfl ?_
      refine v_iaload (len := 101) (j := wk) dX9_settle_17 rfl (ltn rfl) rfl (by decide) rfl (by omega) ?_
      refine v_is (y := ws wk) (by rfl) ?_
      refine v_bipush (v := 38) dX9_settle_18 (by decide) ?_
      refine v_icmp_eq (tgt := 45) dX9_settle_20 (by decide) (fun h4 => ?_) (fun h4 => ?_)
      · refine v_aload_n dX9_settle_45 rfl 0 rfl ?_
        refine v_dup dX9_settle_46 rfl ?_
        refine v_get (v := .int ((pI I (nI az) dz (nI sk) (nI (wk + 1)) oz nk ws) 65 24)) fa_X9_83 dX9_settle_47 rfl (by decide) (ltn rfl) rfl ?_
        refine v_is (y := nI (wk + 1)) (by rfl) ?_
        refine v_iconst (v := 1) dX9_settle_50 (by decide) ?_
        refine v_isub dX9_settle_51 ?_
        refine v_is (nx_sub (a := (wk + 1)) (b := 1) rfl rfl (by omega)) ?_
        refine v_puti pa_X9_83 dX9_settle_52 rfl (by decide) (ltn rfl) (by show 24 < 73; decide) rfl ?_
        refine v_I (I2 := (pI I (nI az) dz (nI sk) (nI wk) oz nk ws)) (by simp only [pI_at, pI_dg, pI_sg, pI_wt, pI_op, pI_sn, pI_ws]; rfl) ?_
        refine v_aload_n dX9_settle_55 rfl 0 rfl ?_
        refine v_aload_n dX9_settle_56 rfl 0 rfl ?_
        refine v_get (v := .ref (g.1 + 81)) fa_X9_77 dX9_settle_57 rfl (by decide) (ltn rfl) rfl ?_
        refine v_aload_n dX9_settle_60 rfl 0 rfl ?_
        refine v_get (v := .int ((pI I (nI az) dz (nI sk) (nI wk) oz nk ws) 65 24)) fa_X9_83 dX9_settle_61 rfl (by decide) (ltn rfl) rfl ?_
        refine v_is (y := nI wk) (by rfl) ?_
        refine v_iaload (len := 101) (j := wk) dX9_settle_64 rfl (ltn rfl) rfl (by decide) rfl (by omega) ?_
        refine v_is (y := ws wk) (by rfl) ?_
        refine v_ineg dX9_settle_65 ?_
        refine v_callVv (As := [.int (-ws wk)]) (rest := []) lk_X9_260 (c_X9_emits (I := I) (-ws wk) az dz sk wk oz nk ws fd hf hfd tx htx (by omega)) dX9_settle_66 rfl (ltn rfl) rfl rfl (Nat.le_of_ble_eq_true rfl) (by decide) ?_
        refine v_goto (tgt := 0) dX9_settle_69 (by decide) ?_
        exact ih _ _ (by omega) (by omega) (by rw [← hwe, stl, ifc_t (Or.inl h4)])
      · refine v_aload_n dX9_settle_23 rfl 0 rfl ?_
        refine v_get (v := .ref (g.1 + 81)) fa_X9_77 dX9_settle_24 rfl (by decide) (ltn rfl) rfl ?_
        refine v_aload_n dX9_settle_27 rfl 0 rfl ?_
        refine v_get (v := .int ((pI I (nI az) dz (nI sk) (nI (wk + 1)) oz nk ws) 65 24)) fa_X9_83 dX9_settle_28 rfl (by decide) (ltn rfl) rfl ?_
        refine v_is (y := nI (wk + 1)) (by rfl) ?_
        refine v_iconst (v := 1) dX9_settle_31 (by decide) ?_
        refine v_isub dX9_settle_32 ?_
        refine v_is (nx_sub (a := (wk + 1)) (b := 1) rfl rfl (by omega)) ?_
        refine v_is (y := nI wk) rfl ?_
        refine v_iaload (len := 101) (j := wk) dX9_settle_33 rfl (ltn rfl) rfl (by decide) rfl (by omega) ?_
        refine v_is (y := ws wk) (by rfl) ?_
        refine v_bipush (v := 124) dX9_settle_34 (by decide) ?_
        refine v_icmp_ne (tgt := 72) dX9_settle_36 (by decide) (fun h6 => ?_) (fun h6 => ?_)
        · exact v_vret hr dX9_settle_72 (⟨rfl, (by rw [← hwe, stl, ifc_f (fun q => q.elim h4 (fun q => h6 q.1))]), rfl, rfl, rfl, rfl⟩)
        · refine v_iload_n dX9_settle_39 rfl 1 rfl ?_
          refine v_bipush (v := 38) dX9_settle_40 (by decide) ?_
          refine v_icmp_eq (tgt := 72) dX9_settle_42 (by decide) (fun h8 => ?_) (fun h8 => ?_)
          · exact v_vret hr dX9_settle_72 (⟨rfl, (by rw [← hwe, stl, ifc_f (fun q => q.elim h4 (fun q => q.2 h8))]), rfl, rfl, rfl, rfl⟩)
          · refine v_aload_n dX9_settle_45 rfl 0 rfl ?_
            refine v_dup dX9_settle_46 rfl ?_
            refine v_get (v := .int ((pI I (nI az) dz (nI sk) (nI (wk + 1)) oz nk ws) 65 24)) fa_X9_83 dX9_settle_47 rfl (by decide) (ltn rfl) rfl ?_
            refine v_is (y := nI (wk + 1)) (by rfl) ?_
            refine v_iconst (v := 1) dX9_settle_50 (by decide) ?_
            refine v_isub dX9_settle_51 ?_
            refine v_is (nx_sub (a := (wk + 1)) (b := 1) rfl rfl (by omega)) ?_
            refine v_puti pa_X9_83 dX9_settle_52 rfl (by decide) (ltn rfl) (by show 24 < 73; decide) rfl ?_
            refine v_I (I2 := (pI I (nI az) dz (nI sk) (nI wk) oz nk ws)) (by simp only [pI_at, pI_dg, pI_sg, pI_wt, pI_op, pI_sn, pI_ws]; rfl) ?_
            refine v_aload_n dX9_settle_55 rfl 0 rfl ?_
            refine v_aload_n dX9_settle_56 rfl 0 rfl ?_
            refine v_get (v := .ref (g.1 + 81)) fa_X9_77 dX9_settle_57 rfl (by decide) (ltn rfl) rfl ?_
            refine v_aload_n dX9_settle_60 rfl 0 rfl ?_
            refine v_get (v := .int ((pI I (nI az) dz (nI sk) (nI wk) oz nk ws) 65 24)) fa_X9_83 dX9_settle_61 rfl (by decide) (ltn rfl) rfl ?_
            refine v_is (y := nI wk) (by rfl) ?_
            refine v_iaload (len := 101) (j := wk) dX9_settle_64 rfl (ltn rfl) rfl (by decide) rfl (by omega) ?_
            refine v_is (y := ws wk) (by rfl) ?_
            refine v_ineg dX9_settle_65 ?_
            refine v_callVv (As := [.int (-ws wk)]) (rest := []) lk_X9_260 (c_X9_emits (I := I) (-ws wk) az dz sk wk oz nk ws fd hf hfd tx htx (by omega)) dX9_settle_66 rfl (ltn rfl) rfl rfl (Nat.le_of_ble_eq_true rfl) (by decide) ?_
            refine v_goto (tgt := 0) dX9_settle_69 (by decide) ?_
            exact ih _ _ (by omega) (by omega) (by rw [← hwe, stl, ifc_t (Or.inr ⟨h6, h8⟩)])
  exact key wz sz sn hsw hww rfl
