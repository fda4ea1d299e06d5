/-- what nation() leaves where there is room for one more -/
def Pna (I : Ty) (L0 : TL) (R0 : TR) (N0 : TN) (n0 f : Nat) (z : Nat × Option ClL) : Post := fun v I' L R N n => v = some (.int (ifc (z.2.isSome = true) (nI f) (-10 - nI z.1))) ∧ (∃ (dg : Int32) (sg wt : Nat) (op : Int32) (sn ws : Nat → Int32) (B : Ty), I' = ifc (z.2.isSome = true) (wr (wr (wr (pI B (nI z.1) dg (nI sg) (nI wt) op sn ws) 65 12 0) 65 11 (nI f)) 65 10 (nI (f + 1))) (wr (pI B (nI z.1) dg (nI sg) (nI wt) op sn ws) 65 12 0) ∧ tjn f I B ∧ (∀ j, j < 100 * f → sn j = I 80 j) ∧ (∀ l, z.2 = some l → l.length ≤ 10 ∧ 1 ≤ l.length ∧ B 75 f = nI l.length ∧ enc B (10 * f) (100 * f) l ∧ sn = putL (I 80) (100 * f) ((toks l).map mcd) ∧ (toks l).length ≤ 100)) ∧ L = L0 ∧ R = R0 ∧ N = N0 ∧ n = n0
set_option maxRecDepth 100000 in
set_option maxHeartbeats 2000000 in
theorem c_nation1 {g : Gl} {I : Ty} {L : TL} {na nt ni m : Nat} {nl : Nat → Nat}  (nn : Nat) (hnn6 : nn < 6) (hne : I 65 10 = nI nn) (fd : Nat) (hf : fd ≤ 100) (hfd : I 65 12 = nI fd) (tx : Nat → Int32) (htx : I 74 = tx) (lt : Nat → Int32) (hlt : I 82 = lt) : Ct g yX9_nation cX9_nation 2 (some .int) 8 0 0 [.ref (g.1 + 65)] I L (RT na nt ni) (NT nl) (NB + m) (Pna I L (RT na nt ni) (NT nl) (NB + m) nn (txR tx lt fd 10 0 [])) := by
  refine ct_of (by decide +kernel) (Nat.le_of_ble_eq_true rfl) (fun F hnm hr => ?_)
  clear hnm
  show V g F cX9_nation RX9 2 8 0 [(0, .ref (g.1 + 65))] [] I L (RT na nt ni) (NT nl) (NB + m) 0 0
  refine v_aload_n dX9_nation_0 rfl 0 rfl ?_
  refine v_get (v := .int (I 65 10)) fa_X9_41 dX9_nation_1 rfl (by decide) (ltn rfl) rfl ?_
  refine v_is hne ?_
  refine v_bipush (v := 6) dX9_nation_4 (by decide) ?_
  refine v_icmp_neN (a := nn) (b := 6) (tgt := 12) dX9_nation_6 (by decide) rfl rfl (by omega) (by omega) (fun h1 => ?_) (fun h => by exfalso; omega)
  refine v_aload_n dX9_nation_12 rfl 0 rfl ?_
  refine v_aload_n dX9_nation_13 rfl 0 rfl ?_
  refine v_get (v := .int (I 65 10)) fa_X9_41 dX9_nation_14 rfl (by decide) (ltn rfl) rfl ?_
  refine v_is hne ?_
  refine v_callV (As := [.int (nI nn)]) (rest := []) lk_X9_292 (c_X9_goesText nn hnn6 fd hf hfd tx htx lt hlt) dX9_nation_17 rfl (ltn rfl) rfl rfl (Nat.le_of_ble_eq_true rfl) (by decide) (Nat.zero_le _) (Nat.zero_le _) (fun v I2 L_ R_ N_ n_ q3 => ?_)
  obtain ⟨rfl, ⟨dg, sg, wt, op, sn, ws, B, rfl, hT, hsn, hal⟩, rfl, rfl, rfl, rfl⟩ := q3
  have hne2 : B 65 10 = nI nn := (congrFun (hT.1 65 (by decide) (by decide) (by decide) (by decide) (by decide)) 10).trans hne
  refine v_st (st2 := [.int (bq ((txR tx lt fd 10 0 []).2.isSome = true))]) rfl ?_
  refine v_istore_n (lv2 := [(1, .int (bq ((txR tx lt fd 10 0 []).2.isSome = true))), (0, .ref (g.1 + 65))]) dX9_nation_20 rfl (by decide) rfl ?_
  refine v_aload_n dX9_nation_21 rfl 1 rfl ?_
  refine v_iconst (v := 0) dX9_nation_22 (by decide) ?_
  refine v_puti pa_X9_47 dX9_nation_23 rfl (by decide) (ltn rfl) (by show 12 < 73; decide) rfl ?_
  refine v_iload_n dX9_nation_26 rfl 0 rfl ?_
  refine v_ifb_ne (tgt := 38) dX9_nation_27 (by decide) (fun h4 => ?_) (fun h4 => ?_)
  · -- ((txR tx lt fd 10 0 []).2.isSome = true)
    refine v_aload_n dX9_nation_38 rfl 1 rfl ?_
    refine v_aload_n dX9_nation_39 rfl 1 rfl ?_
    refine v_get (v := .int ((pI B (nI (txR tx lt fd 10 0 []).1) dg (nI sg) (nI wt) op sn ws) 65 10)) fa_X9_41 dX9_nation_40 rfl (by decide) (ltn rfl) rfl ?_
    refine v_is (y := nI nn) (by exact hne2) ?_
    refine v_puti pa_X9_44 dX9_nation_43 rfl (by decide) (ltn rfl) (by show 11 < 73; decide) rfl ?_
    refine v_aload_n dX9_nation_46 rfl 1 rfl ?_
    refine v_dup dX9_nation_47 rfl ?_
    refine v_get (v := .int ((pI B (nI (txR tx lt fd 10 0 []).1) dg (nI sg) (nI wt) op sn ws) 65 10)) fa_X9_41 dX9_nation_48 rfl (by decide) (ltn rfl) rfl ?_
    refine v_is (y := nI nn) (by exact hne2) ?_
    refine v_iconst (v := 1) dX9_nation_51 (by decide) ?_
    refine v_iadd dX9_nation_52 ?_
    refine v_is (nx_add rfl rfl) ?_
    refine v_puti pa_X9_41 dX9_nation_53 rfl (by decide) (ltn rfl) (by show 10 < 73; decide) rfl ?_
    refine v_aload_n dX9_nation_56 rfl 1 rfl ?_
    refine v_get (v := .int (nI nn)) fa_X9_44 dX9_nation_57 rfl (by decide) (ltn rfl) rfl ?_
    exact v_iret hr dX9_nation_60 (⟨congrArg (fun z => some (Value.int z)) (by rw [ifc_t h4]), ⟨dg, sg, wt, op, sn, ws, B, (by rw [ifc_t h4]), hT, hsn, hal⟩, rfl, rfl, rfl, rfl⟩)
  · -- not ((txR tx lt fd 10 0 []).2.isSome = true)
    refine v_bipush (v := (-10)) dX9_nation_30 (by decide) ?_
    refine v_aload_n dX9_nation_32 rfl 1 rfl ?_
    refine v_get (v := .int ((pI B (nI (txR tx lt fd 10 0 []).1) dg (nI sg) (nI wt) op sn ws) 65 13)) fa_X9_50 dX9_nation_33 rfl (by decide) (ltn rfl) rfl ?_
    refine v_is (y := nI (txR tx lt fd 10 0 []).1) (by rfl) ?_
    refine v_isub dX9_nation_36 ?_
    exact v_iret hr dX9_nation_37 (⟨congrArg (fun z => some (Value.int z)) (by rw [ifc_f h4]), ⟨dg, sg, wt, op, sn, ws, B, (by rw [ifc_f h4]), hT, hsn, hal⟩, rfl, rfl, rfl, rfl⟩)
set_option maxRecDepth 100000 in
set_option maxHeartbeats 400000 in
theorem c_nation6 {g : Gl} {I : Ty} {L : TL} {na nt ni m : Nat} {nl : Nat → Nat}  (hne : I 65 10 = nI 6) : Ct g yX9_nation cX9_nation 2 (some .int) 8 0 0 [.ref (g.1 + 65)] I L (RT na nt ni) (NT nl) (NB + m) (Ps (some (.int (-4))) I L (RT na nt ni) (NT nl) (NB + m)) := by
  refine ct_of (by decide +kernel) (Nat.le_of_ble_eq_true rfl) (fun F hnm hr => ?_)
  clear hnm
  show V g F cX9_nation RX9 2 8 0 [(0, .ref (g.1 + 65))] [] I L (RT na nt ni) (NT nl) (NB + m) 0 0
  refine v_aload_n dX9_nation_0 rfl 0 rfl ?_
  refine v_get (v := .int (I 65 10)) fa_X9_41 dX9_nation_1 rfl (by decide) (ltn rfl) rfl ?_
  refine v_is (hne.trans rfl) ?_
  refine v_bipush (v := 6) dX9_nation_4 (by decide) ?_
  refine v_icmp_neN (a := 6) (b := 6) (tgt := 12) dX9_nation_6 (by decide) rfl rfl (by omega) (by omega) (fun h => by exfalso; omega) (fun h1 => ?_)
  refine v_bipush (v := (-4)) dX9_nation_9 (by decide) ?_
  exact v_iret hr dX9_nation_11 (psi (by rfl) rfl)
