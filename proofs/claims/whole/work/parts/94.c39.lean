section
variable {g : Gl} {F : Fx} {cc : ByteArray} {own : String} {nL d pc : Nat} {lv : List (Nat × Value)} {st : List Value} {I : Ty} {L : TL} {R : TR} {N : TN} {n kr sr : Nat}
theorem v_ldcs {index i : Nat} {tx : String} (hz : ∀ U, Sx g U → vk_R own index tx (g.2.2.2.2.1 i) U) (hd : decode cc pc = .ok (.ldc index, 2)) (k : V g F cc own nL d (pc + 2) lv (.ref (g.2.2.2.2.1 i) :: st) I L R N n kr sr) : V g F cc own nL d pc lv st I L R N n kr sr := by
  intro hF H locs ls kc ks h1 h2 hH hL hlv; obtain ⟨p, l, e, Rm, s, m, args, below, meth, c, Q⟩ := F
  obtain ⟨hx, hb, hml, ho, hts, hE, hf1, hf2⟩ := id hF
  exact va_ldcS hx hb ho (hz _ hE.2.2) hd (k hF H locs ls kc ks h1 h2 hH hL hlv)
theorem v_callOi {index na mL dc i : Nat} {y : MethodName} {bytes : ByteArray} {ret : Option FieldType} {As rest : List Value} {v : Int32} (hi : i < 5) (hl : LkO own index y bytes mL ret na) (hM : Ct g y bytes mL ret dc 0 0 (.ref (g.2.2.2.2.1 i) :: As) I L R N n (Ps (some (.int v)) I L R N n)) (hd : decode cc pc = .ok (.invokevirtual index, 3))
    (hna : As.length = na) (hst : st = As.reverse ++ .ref (g.2.2.2.2.1 i) :: rest) (hrest : rest.length ≤ 4) (hdc : dc + 1 ≤ d) (k : V g F cc own nL d (pc + 3) lv (.int v :: rest) I L R N n kr sr) : V g F cc own nL d pc lv st I L R N n kr sr :=
  v_callO hi hl hM hd hna hst hrest hdc (Nat.zero_le _) (Nat.zero_le _) (fun v' I' L' R' N' n' h => by obtain ⟨rfl, rfl, rfl, rfl, rfl, rfl⟩ := h; exact k)
end
theorem lz_X4_52 {g : Gl} (U : State) (h : Sx g U) : vk_R RX4 52 "fade " (g.2.2.2.2.1 0) U := h.2.2.2.1
theorem lz_X4_64 {g : Gl} (U : State) (h : Sx g U) : vk_R RX4 64 "open " (g.2.2.2.2.1 1) U := h.2.2.2.2.1
theorem lz_X4_66 {g : Gl} (U : State) (h : Sx g U) : vk_R RX4 66 "shut " (g.2.2.2.2.1 2) U := h.2.2.2.2.2.1
theorem lz_X4_82 {g : Gl} (U : State) (h : Sx g U) : vk_R RX4 82 "pkvcgh" (g.2.2.2.2.1 3) U := h.2.2.2.2.2.2.1
theorem lz_X4_88 {g : Gl} (U : State) (h : Sx g U) : vk_R RX4 88 "<=>" (g.2.2.2.2.1 4) U := h.2.2.2.2.2.2.2.1
noncomputable def wlS (tx : Nat → Int32) (fd i a : Nat) : Nat := frst (fun k => ¬ nxt tx fd (a + k) = chS i k) (strLen.getD i 0)
theorem alj_s {P : Nat → Prop} {i : Nat} (h : ∀ j, j < i → P j) (hi : P i) : ∀ j, j < i + 1 → P j := fun j hj => by
  by_cases e : j = i
  · subst e; exact hi
  · exact h j (by omega)
theorem wlS_no {tx : Nat → Int32} {fd i a k : Nat} (hk : k < strLen.getD i 0) (h : ∀ j, j < k → nxt tx fd (a + j) = chS i j) (hn : ¬ nxt tx fd (a + k) = chS i k) : wlS tx fd i a = k := frst_eq (by omega) (Or.inr hn) (fun j hj q => q (h j hj))
theorem wlS_all {tx : Nat → Int32} {fd i a : Nat} (h : ∀ j, j < strLen.getD i 0 → nxt tx fd (a + j) = chS i j) : wlS tx fd i a = strLen.getD i 0 := frst_eq (Nat.le_refl _) (Or.inl rfl) (fun j hj q => q (h j hj))
noncomputable def ixS (i : Nat) (x : Int32) : Int32 := ifc (frst (fun k => chS i k = x) (strLen.getD i 0) = strLen.getD i 0) (-1) (nI (frst (fun k => chS i k = x) (strLen.getD i 0)))
theorem ixS_hit {i k : Nat} {x : Int32} (hk : k < strLen.getD i 0) (h : chS i k = x) (hj : ∀ j, j < k → ¬ chS i j = x) : nI k = ixS i x := by
  unfold ixS; rw [frst_eq (by omega) (Or.inr h) hj, ifc_f (by omega)]
theorem ixS_no {i : Nat} {x : Int32} (hj : ∀ j, j < strLen.getD i 0 → ¬ chS i j = x) : (-1 : Int32) = ixS i x := by
  unfold ixS; rw [frst_eq (Nat.le_refl _) (Or.inl rfl) hj, ifc_t rfl]
theorem ixS_3 (x : Int32) : ixS 3 x = plc x := by
  unfold plc
  by_cases h0 : x = 112
  · subst h0; rw [ifc_t rfl]; exact (ixS_hit (k := 0) (by decide +kernel) (by decide +kernel) (by decide +kernel)).symm
  by_cases h1 : x = 107
  · subst h1; rw [ifc_f h0, ifc_t rfl]; exact (ixS_hit (k := 1) (by decide +kernel) (by decide +kernel) (by decide +kernel)).symm
  by_cases h2 : x = 118
  · subst h2; rw [ifc_f h0, ifc_f h1, ifc_t rfl]; exact (ixS_hit (k := 2) (by decide +kernel) (by decide +kernel) (by decide +kernel)).symm
  by_cases h3 : x = 99
  · subst h3; rw [ifc_f h0, ifc_f h1, ifc_f h2, ifc_t rfl]; exact (ixS_hit (k := 3) (by decide +kernel) (by decide +kernel) (by decide +kernel)).symm
  by_cases h4 : x = 103
  · subst h4; rw [ifc_f h0, ifc_f h1, ifc_f h2, ifc_f h3, ifc_t rfl]; exact (ixS_hit (k := 4) (by decide +kernel) (by decide +kernel) (by decide +kernel)).symm
  by_cases h5 : x = 104
  · subst h5; rw [ifc_f h0, ifc_f h1, ifc_f h2, ifc_f h3, ifc_f h4, ifc_t rfl]; exact (ixS_hit (k := 5) (by decide +kernel) (by decide +kernel) (by decide +kernel)).symm
  rw [ifc_f h0, ifc_f h1, ifc_f h2, ifc_f h3, ifc_f h4, ifc_f h5]
  refine (ixS_no (fun j hj q => ?_)).symm
  have key : ∀ j, j < strLen.getD 3 0 → chS 3 j = 112 ∨ chS 3 j = 107 ∨ chS 3 j = 118 ∨ chS 3 j = 99 ∨ chS 3 j = 103 ∨ chS 3 j = 104 := by decide +kernel
  rcases key j hj with e | e | e | e | e | e
  · exact h0 (q.symm.trans e)
  · exact h1 (q.symm.trans e)
  · exact h2 (q.symm.trans e)
  · exact h3 (q.symm.trans e)
  · exact h4 (q.symm.trans e)
  · exact h5 (q.symm.trans e)
theorem relP_3 {x : Int32} (h : relP x) : x = 60 ∨ x = 61 ∨ x = 62 := by
  obtain ⟨a, b⟩ := h
  have a := Int32.le_iff_toInt_le.mp a; have b := Int32.le_iff_toInt_le.mp b
  have e0 : (60 : Int32).toInt = 60 := by decide
  have e1 : (61 : Int32).toInt = 61 := by decide
  have e2 : (62 : Int32).toInt = 62 := by decide
  rw [e0] at a; rw [e2] at b
  rcases (show x.toInt = 60 ∨ x.toInt = 61 ∨ x.toInt = 62 by omega) with e | e | e
  · exact Or.inl (Int32.toInt_inj.mp (e.trans e0.symm))
  · exact Or.inr (Or.inl (Int32.toInt_inj.mp (e.trans e1.symm)))
  · exact Or.inr (Or.inr (Int32.toInt_inj.mp (e.trans e2.symm)))
theorem ixS_4y {x : Int32} (h : relP x) : ixS 4 x = x - 60 ∧ ¬ x - 60 < 0 := by
  rcases relP_3 h with e | e | e <;> subst e
  · exact ⟨(ixS_hit (k := 0) (by decide +kernel) (by decide +kernel) (by decide +kernel)).symm.trans (by decide), by decide⟩
  · exact ⟨(ixS_hit (k := 1) (by decide +kernel) (by decide +kernel) (by decide +kernel)).symm.trans (by decide), by decide⟩
  · exact ⟨(ixS_hit (k := 2) (by decide +kernel) (by decide +kernel) (by decide +kernel)).symm.trans (by decide), by decide⟩
theorem ixS_4n {x : Int32} (h : ¬ relP x) : ixS 4 x = -1 := by
  refine (ixS_no (fun j hj q => ?_)).symm
  have key : ∀ j, j < strLen.getD 4 0 → relP (chS 4 j) := by
    have k2 : ∀ j, j < strLen.getD 4 0 → 60 ≤ chS 4 j ∧ chS 4 j ≤ 62 := by decide +kernel
    exact k2
  exact h (q ▸ key j hj)
theorem ixS_4 (x : Int32) : ¬ ixS 4 x < 0 ↔ relP x := by
  by_cases h : relP x
  · rw [(ixS_4y h).1]; exact ⟨fun _ => h, fun _ => (ixS_4y h).2⟩
  · rw [ixS_4n h]; exact ⟨fun q => absurd (by decide) q, fun q => absurd q h⟩
set_option maxRecDepth 100000 in
set_option maxHeartbeats 400000 in
theorem c_X4_takeWord {g : Gl} {I : Ty} {L : TL} {na nt ni m : Nat} {nl : Nat → Nat}  (az sz : Nat) (nu fa : Int32) (st : Nat → Int32) (fd : Nat) (hf : fd ≤ 100) (hfd : I 15 0 = nI fd) (tx : Nat → Int32) (htx : I 16 = tx) (iz : Nat) (hiz : iz < 5) (ha : az ≤ 900) : Ct g yX4_takeWord cX4_takeWord 3 (some .boolean) 4 0 0 [.ref (g.1 + 15), .ref (g.2.2.2.2.1 iz)] (rI I (nI az) (nI sz) nu fa st) L (RT na nt ni) (NT nl) (NB + m) (Ps (some (.int (bq (wlS tx fd iz az = strLen.getD iz 0)))) (rI I (nI (az + wlS tx fd iz az)) (nI sz) nu fa st) L (RT na nt ni) (NT nl) (NB + m)) := by
  refine ct_of (by decide +kernel) (Nat.le_of_ble_eq_true rfl) (fun F hnm hr => ?_)
  clear hnm
  show V g F cX4_takeWord RX4 3 4 0 [(0, .ref (g.1 + 15)), (1, .ref (g.2.2.2.2.1 iz))] [] (rI I (nI az) (nI sz) nu fa st) L (RT na nt ni) (NT nl) (NB + m) 0 0
  have h6 := strLen_6 iz hiz
  refine v_iconst (v := 0) dX4_takeWord_0 (by decide) ?_
  refine v_istore_n (lv2 := [(2, .int 0), (0, .ref (g.1 + 15)), (1, .ref (g.2.2.2.2.1 iz))]) dX4_takeWord_1 rfl (by decide) rfl ?_
  refine v_lv (lv2 := [(2, .int (nI 0)), (0, .ref (g.1 + 15)), (1, .ref (g.2.2.2.2.1 iz))]) (by rfl) ?_
  refine v_I (I2 := (rI I (nI (az + 0)) (nI sz) nu fa st)) (by rfl) ?_
  refine dloop (P := fun i => (∀ j, j < i → nxt tx fd (az + j) = chS iz j) → V g F cX4_takeWord RX4 3 4 2 [(2, .int (nI i)), (0, .ref (g.1 + 15)), (1, .ref (g.2.2.2.2.1 iz))] [] (rI I (nI (az + i)) (nI sz) nu fa st) L (RT na nt ni) (NT nl) (NB + m) 0 0) (strLen.getD iz 0) ?_ ?_ 0 (Nat.zero_le _) (fun j h => absurd h (Nat.not_lt_zero j))
  · intro hinv
    refine v_iload_n dX4_takeWord_2 rfl 0 rfl ?_
    refine v_aload_n dX4_takeWord_3 rfl 2 rfl ?_
    refine v_callOi (As := []) (rest := [.int (nI (strLen.getD iz 0))]) hiz jk_slen (c_slen iz hiz) dX4_takeWord_4 rfl rfl (Nat.le_of_ble_eq_true rfl) (by decide) ?_
    refine v_icmp_geN (a := (strLen.getD iz 0)) (b := (strLen.getD iz 0)) (tgt := 30) dX4_takeWord_7 (by decide) rfl rfl (by omega) (by omega) (fun h1 => ?_) (fun h => by exfalso; omega)
    refine v_iconst (v := 1) dX4_takeWord_30 (by decide) ?_
    exact v_zret hr dX4_takeWord_31 (by first | rfl | exact nbq) (⟨congrArg (fun z => some (Value.int z)) (by rw [wlS_all hinv, bq_t rfl]), (by rw [wlS_all hinv]), rfl, rfl, rfl, rfl⟩)
  · intro i hi ih
    intro hinv
    refine v_iload_n dX4_takeWord_2 rfl 0 rfl ?_
    refine v_aload_n dX4_takeWord_3 rfl 2 rfl ?_
    refine v_callOi (As := []) (rest := [.int (nI i)]) hiz jk_slen (c_slen iz hiz) dX4_takeWord_4 rfl rfl (Nat.le_of_ble_eq_true rfl) (by decide) ?_
    refine v_icmp_geN (a := i) (b := (strLen.getD iz 0)) (tgt := 30) dX4_takeWord_7 (by decide) rfl rfl (by omega) (by omega) (fun h => by exfalso; omega) (fun h2 => ?_)
    refine v_aload_n dX4_takeWord_10 rfl 1 rfl ?_
    refine v_aload_n dX4_takeWord_11 rfl 2 rfl ?_
    refine v_iload_n dX4_takeWord_12 rfl 0 rfl ?_
    refine v_callOi (As := [.int (nI i)]) (rest := [.ref (g.1 + 15)]) hiz jk_scharAt (c_scharAt iz i hiz (by omega)) dX4_takeWord_13 rfl rfl (Nat.le_of_ble_eq_true rfl) (by decide) ?_
    refine v_callVi (As := [.int (chS iz i)]) (rest := []) lk_X4_33 (c_X4_takeSign (chS iz i) (az + i) sz nu fa st fd hf hfd tx htx (by omega)) dX4_takeWord_16 rfl (ltn rfl) rfl rfl (Nat.le_of_ble_eq_true rfl) (by decide) ?_
    refine v_ifb_ne (tgt := 24) dX4_takeWord_19 (by decide) (fun h3 => ?_) (fun h3 => ?_)
    · -- (nxt tx fd (az + i) = (chS iz i))
      refine v_I (I2 := (rI I (nI ((az + i) + 1)) (nI sz) nu fa st)) (by rw [ifc_t h3]) ?_
      refine v_inc (v := nI (i + 1)) (lv2 := [(2, .int (nI (i + 1))), (0, .ref (g.1 + 15)), (1, .ref (g.2.2.2.2.1 iz))]) dX4_takeWord_24 0 rfl (nx_inc rfl) (by decide) rfl ?_
      refine v_goto (tgt := 2) dX4_takeWord_27 (by decide) ?_
      refine v_I (I2 := (rI I (nI (az + (i + 1))) (nI sz) nu fa st)) (by rfl) ?_
      exact ih (alj_s hinv h3)
    · -- not (nxt tx fd (az + i) = (chS iz i))
      refine v_I (I2 := (rI I (nI (az + i)) (nI sz) nu fa st)) (by rw [ifc_f h3]) ?_
      refine v_iconst (v := 0) dX4_takeWord_22 (by decide) ?_
      exact v_zret hr dX4_takeWord_23 (by first | rfl | exact nbq) (⟨congrArg (fun z => some (Value.int z)) (by rw [wlS_no hi hinv h3, bq_f (by omega)]), (by rw [wlS_no hi hinv h3]), rfl, rfl, rfl, rfl⟩)
set_option maxRecDepth 100000 in
set_option maxHeartbeats 400000 in
theorem c_X4_indexOfSign {g : Gl} {I : Ty} {L : TL} {na nt ni m : Nat} {nl : Nat → Nat}  (az sz : Nat) (nu fa : Int32) (st : Nat → Int32) (fd : Nat) (hf : fd ≤ 100) (hfd : I 15 0 = nI fd) (tx : Nat → Int32) (htx : I 16 = tx) (iz : Nat) (hiz : iz < 5) (ha : az ≤ 900) : Ct g yX4_indexOfSign cX4_indexOfSign 4 (some .int) 4 0 0 [.ref (g.1 + 15), .ref (g.2.2.2.2.1 iz)] (rI I (nI az) (nI sz) nu fa st) L (RT na nt ni) (NT nl) (NB + m) (Ps (some (.int (ixS iz (nxt tx fd az)))) (rI I (nI az) (nI sz) nu fa st) L (RT na nt ni) (NT nl) (NB + m)) := by
  refine ct_of (by decide +kernel) (Nat.le_of_ble_eq_true rfl) (fun F hnm hr => ?_)
  clear hnm
  show V g F cX4_indexOfSign RX4 4 4 0 [(0, .ref (g.1 + 15)), (1, .ref (g.2.2.2.2.1 iz))] [] (rI I (nI az) (nI sz) nu fa st) L (RT na nt ni) (NT nl) (NB + m) 0 0
  have h6 := strLen_6 iz hiz
  refine v_aload_n dX4_indexOfSign_0 rfl 0 rfl ?_
  refine v_callVi (As := []) (rest := []) lk_X4_48 (c_X4_sign az sz nu fa st fd hf hfd tx htx (by omega)) dX4_indexOfSign_1 rfl (ltn rfl) rfl rfl (Nat.le_of_ble_eq_true rfl) (by decide) ?_
  refine v_istore_n (lv2 := [(2, .int (nxt tx fd az)), (0, .ref (g.1 + 15)), (1, .ref (g.2.2.2.2.1 iz))]) dX4_indexOfSign_4 rfl (by decide) rfl ?_
  refine v_iconst (v := 0) dX4_indexOfSign_5 (by decide) ?_
  refine v_istore_n (lv2 := [(3, .int 0), (2, .int (nxt tx fd az)), (0, .ref (g.1 + 15)), (1, .ref (g.2.2.2.2.1 iz))]) dX4_indexOfSign_6 rfl (by decide) rfl ?_
  refine v_lv (lv2 := [(3, .int (nI 0)), (2, .int (nxt tx fd az)), (0, .ref (g.1 + 15)), (1, .ref (g.2.2.2.2.1 iz))]) (by rfl) ?_
  refine dloop (P := fun i => (∀ j, j < i → ¬ chS iz j = (nxt tx fd az)) → V g F cX4_indexOfSign RX4 4 4 7 [(3, .int (nI i)), (2, .int (nxt tx fd az)), (0, .ref (g.1 + 15)), (1, .ref (g.2.2.2.2.1 iz))] [] (rI I (nI az) (nI sz) nu fa st) L (RT na nt ni) (NT nl) (NB + m) 0 0) (strLen.getD iz 0) ?_ ?_ 0 (Nat.zero_le _) (fun j h => absurd h (Nat.not_lt_zero j))
  · intro hinv
    refine v_iload_n dX4_indexOfSign_7 rfl 0 rfl ?_
    refine v_aload_n dX4_indexOfSign_8 rfl 3 rfl ?_
    refine v_callOi (As := []) (rest := [.int (nI (strLen.getD iz 0))]) hiz jk_slen (c_slen iz hiz) dX4_indexOfSign_9 rfl rfl (Nat.le_of_ble_eq_true rfl) (by decide) ?_
    refine v_icmp_geN (a := (strLen.getD iz 0)) (b := (strLen.getD iz 0)) (tgt := 32) dX4_indexOfSign_12 (by decide) rfl rfl (by omega) (by omega) (fun h1 => ?_) (fun h => by exfalso; omega)
    refine v_iconst (v := (-1)) dX4_indexOfSign_32 (by decide) ?_
    exact v_iret hr dX4_indexOfSign_33 (psi (ixS_no hinv) rfl)
  · intro i hi ih
    intro hinv
    refine v_iload_n dX4_indexOfSign_7 rfl 0 rfl ?_
    refine v_aload_n dX4_indexOfSign_8 rfl 3 rfl ?_
    refine v_callOi (As := []) (rest := [.int (nI i)]) hiz jk_slen (c_slen iz hiz) dX4_indexOfSign_9 rfl rfl (Nat.le_of_ble_eq_true rfl) (by decide) ?_
    refine v_icmp_geN (a := i) (b := (strLen.getD iz 0)) (tgt := 32) dX4_indexOfSign_12 (by decide) rfl rfl (by omega) (by omega) (fun h => by exfalso; omega) (fun h2 => ?_)
    refine v_aload_n dX4_indexOfSign_15 rfl 3 rfl ?_
    refine v_iload_n dX4_indexOfSign_16 rfl 0 rfl ?_
    refine v_callOi (As := [.int (nI i)]) (rest := []) hiz jk_scharAt (c_scharAt iz i hiz (by omega)) dX4_indexOfSign_17 rfl rfl (Nat.le_of_ble_eq_true rfl) (by decide) ?_
    refine v_iload_n dX4_indexOfSign_20 rfl 1 rfl ?_
    refine v_icmp_ne (tgt := 26) dX4_indexOfSign_21 (by decide) (fun h4 => ?_) (fun h4 => ?_)
    · refine v_inc (v := nI (i + 1)) (lv2 := [(3, .int (nI (i + 1))), (2, .int (nxt tx fd az)), (0, .ref (g.1 + 15)), (1, .ref (g.2.2.2.2.1 iz))]) dX4_indexOfSign_26 0 rfl (nx_inc rfl) (by decide) rfl ?_
      refine v_goto (tgt := 7) dX4_indexOfSign_29 (by decide) ?_
      exact ih (alj_s hinv h4)
    · refine v_iload_n dX4_indexOfSign_24 rfl 0 rfl ?_
      exact v_iret hr dX4_indexOfSign_25 (psi (ixS_hit hi h4 hinv) rfl)
noncomputable def ts1 (tx : Nat → Int32) (fd a sz : Nat) : Nat := ifc (tstOK tx fd a) (sz + 1) sz
noncomputable def ts2 (tx : Nat → Int32) (fd a sz : Nat) (st : Nat → Int32) : Nat → Int32 := ifc (tstOK tx fd a) (va_up st sz (ccd (tstT tx fd a))) st
theorem ccd_tst {tx : Nat → Int32} {fd a : Nat} {nu : Int32} (h : digP (nxt tx fd (a + 1 + 1))) : ((tnD tx fd (a + 1 + 1) nu <<< (3 &&& 31) ||| plc (nxt tx fd a)) <<< (4 &&& 31)) ||| (4 + (nxt tx fd (a + 1) - 60)) = ccd (tstT tx fd a) := by
  unfold ccd tstT tnD
  rw [ifc_t rfl, ifc_t h]
set_option maxRecDepth 100000 in
set_option maxHeartbeats 400000 in
theorem c_X4_parseTest {g : Gl} {I : Ty} {L : TL} {na nt ni m : Nat} {nl : Nat → Nat}  (az sz : Nat) (nu fa : Int32) (st : Nat → Int32) (fd : Nat) (hf : fd ≤ 100) (hfd : I 15 0 = nI fd) (tx : Nat → Int32) (htx : I 16 = tx) (ha : az ≤ 100) (hs : sz ≤ az) : Ct g yX4_parseTest cX4_parseTest 3 (some .boolean) 5 0 0 [.ref (g.1 + 15)] (rI I (nI az) (nI sz) nu fa st) L (RT na nt ni) (NT nl) (NB + m) (Ps (some (.int (bq (tstOK tx fd az)))) (rI I (nI (tstA tx fd az)) (nI (ts1 tx fd az sz)) (tstD tx fd az nu) fa (ts2 tx fd az sz st)) L (RT na nt ni) (NT nl) (NB + m)) := by
  refine ct_of (by decide +kernel) (Nat.le_of_ble_eq_true rfl) (fun F hnm hr => ?_)
  clear hnm
  show V g F cX4_parseTest RX4 3 5 0 [(0, .ref (g.1 + 15))] [] (rI I (nI az) (nI sz) nu fa st) L (RT na nt ni) (NT nl) (NB + m) 0 0
  refine v_aload_n dX4_parseTest_0 rfl 0 rfl ?_
  refine v_ldcs (i := 3) lz_X4_82 dX4_parseTest_1 ?_
  refine v_callVi (As := [.ref (g.2.2.2.2.1 3)]) (rest := []) lk_X4_84 (c_X4_indexOfSign az sz nu fa st fd hf hfd tx htx 3 (by decide) (by omega)) dX4_parseTest_3 rfl (ltn rfl) rfl rfl (Nat.le_of_ble_eq_true rfl) (by decide) ?_
  refine v_is (y := plc (nxt tx fd az)) (ixS_3 _) ?_
  refine v_istore_n (lv2 := [(1, .int (plc (nxt tx fd az))), (0, .ref (g.1 + 15))]) dX4_parseTest_6 rfl (by decide) rfl ?_
  refine v_iload_n dX4_parseTest_7 rfl 0 rfl ?_
  refine v_if_ge (tgt := 13) dX4_parseTest_8 (by decide) (fun h2 => ?_) (fun h2 => ?_)
  · refine v_aload_n dX4_parseTest_13 rfl 1 rfl ?_
    refine v_dup dX4_parseTest_14 rfl ?_
    refine v_get (v := .int ((rI I (nI az) (nI sz) nu fa st) 15 1)) fa_X4_20 dX4_parseTest_15 rfl (by decide) (ltn rfl) rfl ?_
    refine v_is (y := nI az) (by rfl) ?_
    refine v_iconst (v := 1) dX4_parseTest_18 (by decide) ?_
    refine v_iadd dX4_parseTest_19 ?_
    refine v_is (nx_add rfl rfl) ?_
    refine v_puti pa_X4_20 dX4_parseTest_20 rfl (by decide) (ltn rfl) (by show 1 < 7; decide) rfl ?_
    have hge := Int32.not_lt.mpr h2
    refine v_I (I2 := (rI I (nI (az + 1)) (nI sz) nu fa st)) (by first | rfl | (simp only [rI_a, rI_sc, rI_nu, rI_fa, rI_st]; done)) ?_
    refine v_aload_n dX4_parseTest_23 rfl 1 rfl ?_
    refine v_ldcs (i := 4) lz_X4_88 dX4_parseTest_24 ?_
    refine v_callVi (As := [.ref (g.2.2.2.2.1 4)]) (rest := []) lk_X4_84 (c_X4_indexOfSign (az + 1) sz nu fa st fd hf hfd tx htx 4 (by decide) (by omega)) dX4_parseTest_26 rfl (ltn rfl) rfl rfl (Nat.le_of_ble_eq_true rfl) (by decide) ?_
    refine v_istore_n (lv2 := [(2, .int (ixS 4 (nxt tx fd (az + 1)))), (1, .int (plc (nxt tx fd az))), (0, .ref (g.1 + 15))]) dX4_parseTest_29 rfl (by decide) rfl ?_
    refine v_iload_n dX4_parseTest_30 rfl 0 rfl ?_
    refine v_if_ge (tgt := 36) dX4_parseTest_31 (by decide) (fun h4 => ?_) (fun h4 => ?_)
    · have hrel := (ixS_4 _).mp (Int32.not_lt.mpr h4)
      refine v_aload_n dX4_parseTest_36 rfl 2 rfl ?_
      refine v_dup dX4_parseTest_37 rfl ?_
      refine v_get (v := .int ((rI I (nI (az + 1)) (nI sz) nu fa st) 15 1)) fa_X4_20 dX4_parseTest_38 rfl (by decide) (ltn rfl) rfl ?_
      refine v_is (y := nI (az + 1)) (by rfl) ?_
      refine v_iconst (v := 1) dX4_parseTest_41 (by decide) ?_
      refine v_iadd dX4_parseTest_42 ?_
      refine v_is (nx_add rfl rfl) ?_
      refine v_puti pa_X4_20 dX4_parseTest_43 rfl (by decide) (ltn rfl) (by show 1 < 7; decide) rfl ?_
      refine v_I (I2 := (rI I (nI (az + 1 + 1)) (nI sz) nu fa st)) (by first | rfl | (simp only [rI_a, rI_sc, rI_nu, rI_fa, rI_st]; done)) ?_
      have hlt2 : az < fd := nxt_lt (fun q => hge (by rw [q, plc_m1]; decide))
      refine v_aload_n dX4_parseTest_46 rfl 2 rfl ?_
      refine v_callVi (As := []) (rest := []) lk_X4_58 (c_X4_parseNumber (az + 1 + 1) sz nu fa st fd hf hfd tx htx (by omega)) dX4_parseTest_47 rfl (ltn rfl) rfl rfl (Nat.le_of_ble_eq_true rfl) (by decide) ?_
      refine v_ifb_ne (tgt := 55) dX4_parseTest_50 (by decide) (fun h5 => ?_) (fun h5 => ?_)
      · -- (digP (nxt tx fd (az + 1 + 1)))
        refine v_aload_n dX4_parseTest_55 rfl 2 rfl ?_
        refine v_iconst (v := 4) dX4_parseTest_56 (by decide) ?_
        refine v_iload_n dX4_parseTest_57 rfl 0 rfl ?_
        refine v_iadd dX4_parseTest_58 ?_
        refine v_aload_n dX4_parseTest_59 rfl 2 rfl ?_
        refine v_get (v := .int ((rI I (nI (tnA tx fd (az + 1 + 1))) (nI sz) (tnD tx fd (az + 1 + 1) nu) fa st) 15 5)) fa_X4_61 dX4_parseTest_60 rfl (by decide) (ltn rfl) rfl ?_
        refine v_is (y := (tnD tx fd (az + 1 + 1) nu)) (by rfl) ?_
        refine v_iconst (v := 3) dX4_parseTest_63 (by decide) ?_
        refine v_ishl dX4_parseTest_64 ?_
        refine v_iload_n dX4_parseTest_65 rfl 1 rfl ?_
        refine v_ior dX4_parseTest_66 ?_
        refine v_callVv (As := [.int (4 + (ixS 4 (nxt tx fd (az + 1)))), .int (((tnD tx fd (az + 1 + 1) nu) <<< (3 &&& 31)) ||| (plc (nxt tx fd az)))]) (rest := []) lk_X4_72 (c_X4_addStep (4 + (ixS 4 (nxt tx fd (az + 1)))) (((tnD tx fd (az + 1 + 1) nu) <<< (3 &&& 31)) ||| (plc (nxt tx fd az))) (tnA tx fd (az + 1 + 1)) sz (tnD tx fd (az + 1 + 1) nu) fa st fd hf hfd tx htx (by omega)) dX4_parseTest_67 rfl (ltn rfl) rfl rfl (Nat.le_of_ble_eq_true rfl) (by decide) ?_
        refine v_iconst (v := 1) dX4_parseTest_70 (by decide) ?_
        exact v_zret hr dX4_parseTest_71 (by first | rfl | exact nbq) (⟨congrArg (fun z => some (Value.int z)) (bq_t ⟨⟨hge, hrel⟩, h5⟩).symm, (by rw [ts1, ts2, tstA, tstD, ifc_f hge, ifc_t hrel, ifc_t (show tstOK tx fd az from ⟨⟨hge, hrel⟩, h5⟩), ifc_t (show tstOK tx fd az from ⟨⟨hge, hrel⟩, h5⟩), ifc_t (show tstC tx fd az from ⟨hge, hrel⟩), (ixS_4y hrel).1, ccd_tst h5]), rfl, rfl, rfl, rfl⟩)
      · -- not (digP (nxt tx fd (az + 1 + 1)))
        refine v_iconst (v := 0) dX4_parseTest_53 (by decide) ?_
        exact v_zret hr dX4_parseTest_54 (by first | rfl | exact nbq) (⟨congrArg (fun z => some (Value.int z)) (bq_f (fun q => h5 q.2)).symm, (by rw [ts1, ts2, tstA, tstD, ifc_f hge, ifc_t hrel, ifc_f (show ¬ tstOK tx fd az from fun q => h5 q.2), ifc_f (show ¬ tstOK tx fd az from fun q => h5 q.2), ifc_t (show tstC tx fd az from ⟨hge, hrel⟩)]), rfl, rfl, rfl, rfl⟩)
    · have hnr : ¬ relP (nxt tx fd (az + 1)) := fun q => (ixS_4 _).mpr q (Int32.not_le.mp h4)
      refine v_iconst (v := 0) dX4_parseTest_34 (by decide) ?_
      exact v_zret hr dX4_parseTest_35 (by first | rfl | exact nbq) (⟨congrArg (fun z => some (Value.int z)) (bq_f (fun q => hnr q.1.2)).symm, (by unfold tstA ts1 ts2 tstD; rw [ifc_f hge, ifc_f hnr, ifc_f (show ¬ tstOK tx fd az from fun q => hnr q.1.2), ifc_f (show ¬ tstOK tx fd az from fun q => hnr q.1.2), ifc_f (show ¬ tstC tx fd az from fun q => hnr q.2)]), rfl, rfl, rfl, rfl⟩)
  · have hl := Int32.not_le.mp h2
    refine v_iconst (v := 0) dX4_parseTest_11 (by decide) ?_
    exact v_zret hr dX4_parseTest_12 (by first | rfl | exact nbq) (⟨congrArg (fun z => some (Value.int z)) (bq_f (fun q => q.1.1 hl)).symm, (by unfold tstA ts1 ts2 tstD; rw [ifc_t hl, ifc_f (show ¬ tstOK tx fd az from fun q => q.1.1 hl), ifc_f (show ¬ tstOK tx fd az from fun q => q.1.1 hl), ifc_f (show ¬ tstC tx fd az from fun q => q.1 hl)]), rfl, rfl, rfl, rfl⟩)
