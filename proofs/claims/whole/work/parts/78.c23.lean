def tapC (I : Ty) : Prop := ∀ t, t < 6 → ∃ ln, ln ≤ 60 ∧ I (53 + 2 * t) 1 = nI ln
theorem neg_m1 {x : Int32} (h : x < 0) (h2 : -1 ≤ x) : x = -1 := by
  have h1 := Int32.lt_iff_toInt_lt.mp h
  have h3 := Int32.le_iff_toInt_le.mp h2
  have e1 : (0 : Int32).toInt = 0 := by decide
  have e2 : (-1 : Int32).toInt = -1 := by decide
  exact Int32.toInt_inj.mp (by omega)
theorem le4_5 {x : Int32} (h : (5 : Int32) ≤ x) : ¬ x ≤ 4 := fun q => absurd (Int32.le_trans h q) (by decide)
theorem nle5 {x : Int32} (h : ¬ (5 : Int32) ≤ x) : x ≤ 4 := le_nge (k := 4) (by decide) h
theorem jd_ge {ln c : Nat} {iz : Int32} (hl : ln ≤ 60) (hc : c < 16) (hi : ¬ iz < 0) : nI ln - nI c ≤ iz ↔ ln ≤ tn iz + c := by
  have h0 := Int32.le_iff_toInt_le.mp (Int32.not_lt.mp hi)
  have e0 : (0 : Int32).toInt = 0 := by decide
  have h1 := tn_int (x := iz) (by omega)
  rw [Int32.le_iff_toInt_le, pk_sub_toInt (by omega) (by omega)]; omega
set_option maxRecDepth 100000 in
set_option maxHeartbeats 1000000 in
theorem c_X8_tape {g : Gl} {I : Ty} {L : TL} {na nt ni m : Nat} {nl : Nat → Nat} (tz : Int32) (sz : Int32) (nz : Int32)  : Ct g yX8_tape cX8_tape 4 (some .int) 1 0 0 [.ref (g.1 + 0), .int tz, .int sz, .int nz] I L (RT na nt ni) (NT nl) (NB + m) (PZ na ni m nl (some (.int (ifc (inr tz 6) (ifc (tapeA sz nz) (ifc (tapeB sz nz) 1 (-14)) (-2)) (-1)))) (ifc (tapeW tz sz nz) (wr (wr I (53 + 2 * tn tz) 0 sz) (53 + 2 * tn tz) 1 (ifc (sz < 0) 0 nz)) I) (ifc (tapeW tz sz nz) (lzc L (54 + 2 * tn tz) 60) L)) := by
  refine ct_of (by decide +kernel) (Nat.le_of_ble_eq_true rfl) (fun F hnm hr => ?_)
  clear hnm
  show V g F cX8_tape RX8 4 1 0 [(0, .ref (g.1 + 0)), (1, .int tz), (2, .int sz), (3, .int nz)] [] I L (RT na nt ni) (NT nl) (NB + m) 0 0
  refine v_iload_n dX8_tape_0 rfl 1 rfl ?_
  refine v_callSi (As := [.int tz]) (rest := []) lk_X8_247 (c_X8_isTape tz) dX8_tape_1 rfl rfl (Nat.le_of_ble_eq_true rfl) (by decide) ?_
  refine v_ifb_ne (tgt := 9) dX8_tape_4 (by decide) (fun h1 => ?_) (fun h1 => ?_)
  · have e2 := inr_nI h1
    have l3 := inr_lt h1
    refine v_iload_n dX8_tape_9 rfl 2 rfl ?_
    refine v_iconst (v := (-1)) dX8_tape_10 (by decide) ?_
    refine v_icmp_ne (tgt := 27) dX8_tape_11 (by decide) (fun h5 => ?_) (fun h5 => ?_)
    · refine v_iload_n dX8_tape_27 rfl 2 rfl ?_
      refine v_if_lt (tgt := 42) dX8_tape_28 (by decide) (fun h7 => ?_) (fun h7 => ?_)
      · have hnA : ¬ tapeA sz nz := fun q => h5 (neg_m1 h7 q.1.1)
        refine v_bipush (v := (-2)) dX8_tape_42 (by decide) ?_
        exact v_iret hr dX8_tape_44 (⟨congrArg (fun z => some (Value.int z)) (by rw [ifc_t h1, ifc_f hnA]), ⟨_, (by rw [ifc_f (fun q => hnA q.2.1)]; exact scC_self _)⟩, (by rw [ifc_f (fun q => hnA q.2.1)]), ⟨_, rfl⟩, rfl, rfl⟩)
      · refine v_iload_n dX8_tape_31 rfl 2 rfl ?_
        refine v_iconst (v := 5) dX8_tape_32 (by decide) ?_
        refine v_icmp_ge (tgt := 42) dX8_tape_33 (by decide) (fun h9 => ?_) (fun h9 => ?_)
        · have hnA : ¬ tapeA sz nz := fun q => le4_5 h9 q.1.2
          refine v_bipush (v := (-2)) dX8_tape_42 (by decide) ?_
          exact v_iret hr dX8_tape_44 (⟨congrArg (fun z => some (Value.int z)) (by rw [ifc_t h1, ifc_f hnA]), ⟨_, (by rw [ifc_f (fun q => hnA q.2.1)]; exact scC_self _)⟩, (by rw [ifc_f (fun q => hnA q.2.1)]), ⟨_, rfl⟩, rfl, rfl⟩)
        · refine v_iload_n dX8_tape_36 rfl 3 rfl ?_
          refine v_bipush (v := 60) dX8_tape_37 (by decide) ?_
          refine v_icmp_le (tgt := 45) dX8_tape_39 (by decide) (fun h11 => ?_) (fun h11 => ?_)
          · have hA : tapeA sz nz := ⟨⟨Int32.le_trans (by decide) (Int32.not_lt.mp h7), nle5 h9⟩, Or.inr h11⟩
            refine v_iload_n dX8_tape_45 rfl 3 rfl ?_
            refine v_if_ge (tgt := 52) dX8_tape_46 (by decide) (fun h13 => ?_) (fun h13 => ?_)
            · have hB : tapeB sz nz := Or.inr h13
              have hW : tapeW tz sz nz := ⟨h1, hA, hB⟩
              refine v_aload_n dX8_tape_52 rfl 0 rfl ?_
              refine v_get (v := .ref (g.1 + 20)) fa_X8_37 dX8_tape_53 rfl (by decide) (ltn rfl) rfl ?_
              refine v_iload_n dX8_tape_56 rfl 1 rfl ?_
              refine v_aaload (len := 6) (j := (tn tz)) (t := (53 + 2 * (tn tz))) dX8_tape_57 rfl (ltn rfl) rfl (by decide) e2 (by omega) (if_pos (by omega)) ?_
              refine v_iload_n dX8_tape_58 rfl 2 rfl ?_
              refine v_iload_n dX8_tape_59 rfl 3 rfl ?_
              refine v_callVv (As := [.int sz, .int nz]) (rest := []) lk_X8_284 (c_X6_become (I := I) sz nz (tn tz) (by omega)) dX8_tape_60 (kd_tp (by omega)) (lt_tp (by omega) m) rfl rfl (Nat.le_of_ble_eq_true rfl) (by decide) ?_
              refine v_iconst (v := 1) dX8_tape_63 (by decide) ?_
              exact v_iret hr dX8_tape_64 (⟨congrArg (fun z => some (Value.int z)) (by rw [ifc_t h1, ifc_t hA, ifc_t hB]), ⟨_, (by rw [ifc_t hW, ifc_f h7]; exact scC_self _)⟩, (by rw [ifc_t hW]), ⟨_, rfl⟩, rfl, rfl⟩)
            · have hnB : ¬ tapeB sz nz := fun q => q.elim h7 h13
              refine v_bipush (v := (-14)) dX8_tape_49 (by decide) ?_
              exact v_iret hr dX8_tape_51 (⟨congrArg (fun z => some (Value.int z)) (by rw [ifc_t h1, ifc_t hA, ifc_f hnB]), ⟨_, (by rw [ifc_f (fun q => hnB q.2.2)]; exact scC_self _)⟩, (by rw [ifc_f (fun q => hnB q.2.2)]), ⟨_, rfl⟩, rfl, rfl⟩)
          · have hnA : ¬ tapeA sz nz := fun q => q.2.elim h7 h11
            refine v_bipush (v := (-2)) dX8_tape_42 (by decide) ?_
            exact v_iret hr dX8_tape_44 (⟨congrArg (fun z => some (Value.int z)) (by rw [ifc_t h1, ifc_f hnA]), ⟨_, (by rw [ifc_f (fun q => hnA q.2.1)]; exact scC_self _)⟩, (by rw [ifc_f (fun q => hnA q.2.1)]), ⟨_, rfl⟩, rfl, rfl⟩)
    · have hm1 : sz < 0 := by rw [h5]; decide
      have hA : tapeA sz nz := ⟨⟨by rw [h5]; decide, by rw [h5]; decide⟩, Or.inl hm1⟩
      have hB : tapeB sz nz := Or.inl hm1
      have hW : tapeW tz sz nz := ⟨h1, hA, hB⟩
      refine v_aload_n dX8_tape_14 rfl 0 rfl ?_
      refine v_get (v := .ref (g.1 + 20)) fa_X8_37 dX8_tape_15 rfl (by decide) (ltn rfl) rfl ?_
      refine v_iload_n dX8_tape_18 rfl 1 rfl ?_
      refine v_aaload (len := 6) (j := (tn tz)) (t := (53 + 2 * (tn tz))) dX8_tape_19 rfl (ltn rfl) rfl (by decide) e2 (by omega) (if_pos (by omega)) ?_
      refine v_iconst (v := (-1)) dX8_tape_20 (by decide) ?_
      refine v_iconst (v := 0) dX8_tape_21 (by decide) ?_
      refine v_callVv (As := [.int (-1), .int 0]) (rest := []) lk_X8_284 (c_X6_become (I := I) (-1) 0 (tn tz) (by omega)) dX8_tape_22 (kd_tp (by omega)) (lt_tp (by omega) m) rfl rfl (Nat.le_of_ble_eq_true rfl) (by decide) ?_
      refine v_iconst (v := 1) dX8_tape_25 (by decide) ?_
      exact v_iret hr dX8_tape_26 (⟨congrArg (fun z => some (Value.int z)) (by rw [ifc_t h1, ifc_t hA, ifc_t hB]), ⟨_, (by rw [ifc_t hW, ifc_t hm1, h5]; exact scC_self _)⟩, (by rw [ifc_t hW]), ⟨_, rfl⟩, rfl, rfl⟩)
  · refine v_iconst (v := (-1)) dX8_tape_7 (by decide) ?_
    exact v_iret hr dX8_tape_8 (⟨congrArg (fun z => some (Value.int z)) (by rw [ifc_f h1]), ⟨_, (by rw [ifc_f (fun q => h1 q.1)]; exact scC_self _)⟩, (by rw [ifc_f (fun q => h1 q.1)]), ⟨_, rfl⟩, rfl, rfl⟩)
set_option maxRecDepth 100000 in
set_option maxHeartbeats 1000000 in
theorem c_X8_item {g : Gl} {I : Ty} {L : TL} {na nt ni m : Nat} {nl : Nat → Nat} (tz : Int32) (iz : Int32) (zz : Int64) (hT : tapC I) : Ct g yX8_item cX8_item 6 (some .int) 1 0 0 [.ref (g.1 + 0), .int tz, .int iz, .long zz] I L (RT na nt ni) (NT nl) (NB + m) (PZ na ni m nl (some (.int (ifc (inr tz 6) (ifc (I (53 + 2 * tn tz) 0 < 0) (-11) (ifc (inr iz (tn (I (53 + 2 * tn tz) 1))) 1 (-13))) (-1)))) I (ifc (inr tz 6 ∧ ¬ I (53 + 2 * tn tz) 0 < 0 ∧ inr iz (tn (I (53 + 2 * tn tz) 1))) (va_up L (54 + 2 * tn tz) (va_up (L (54 + 2 * tn tz)) (tn iz) (cutF (I (53 + 2 * tn tz) 0) zz))) L)) := by
  refine ct_of (by decide +kernel) (Nat.le_of_ble_eq_true rfl) (fun F hnm hr => ?_)
  clear hnm
  show V g F cX8_item RX8 6 1 0 [(0, .ref (g.1 + 0)), (1, .int tz), (2, .int iz), (3, .long zz)] [] I L (RT na nt ni) (NT nl) (NB + m) 0 0
  refine v_iload_n dX8_item_0 rfl 1 rfl ?_
  refine v_callSi (As := [.int tz]) (rest := []) lk_X8_247 (c_X8_isTape tz) dX8_item_1 rfl rfl (Nat.le_of_ble_eq_true rfl) (by decide) ?_
  refine v_ifb_ne (tgt := 9) dX8_item_4 (by decide) (fun h1 => ?_) (fun h1 => ?_)
  · have e2 := inr_nI h1
    have l3 := inr_lt h1
    obtain ⟨ln, hll, hln⟩ := hT (tn tz) (by omega)
    have htl : tn (I (53 + 2 * tn tz) 1) = ln := by rw [hln, tn_nI (by omega)]
    refine v_aload_n dX8_item_9 rfl 0 rfl ?_
    refine v_get (v := .ref (g.1 + 20)) fa_X8_37 dX8_item_10 rfl (by decide) (ltn rfl) rfl ?_
    refine v_iload_n dX8_item_13 rfl 1 rfl ?_
    refine v_aaload (len := 6) (j := (tn tz)) (t := (53 + 2 * (tn tz))) dX8_item_14 rfl (ltn rfl) rfl (by decide) e2 (by omega) (if_pos (by omega)) ?_
    refine v_astore (lv2 := [(5, .ref (g.1 + (53 + 2 * (tn tz)))), (0, .ref (g.1 + 0)), (1, .int tz), (2, .int iz), (3, .long zz)]) dX8_item_15 (by decide) rfl ?_
    refine v_aload dX8_item_17 0 rfl ?_
    refine v_callVi (As := []) (rest := []) lk_X8_250 (c_X6_isThere (I := I) (tn tz) (by omega)) dX8_item_19 (kd_tp (by omega)) (lt_tp (by omega) m) rfl rfl (Nat.le_of_ble_eq_true rfl) (by decide) ?_
    refine v_ifb_ne (tgt := 28) dX8_item_22 (by decide) (fun h4 => ?_) (fun h4 => ?_)
    · refine v_iload_n dX8_item_28 rfl 3 rfl ?_
      refine v_if_lt (tgt := 41) dX8_item_29 (by decide) (fun h5 => ?_) (fun h5 => ?_)
      · -- iz lt 0
        have r6 : ¬ inr iz ln := inr_lo h5
        have hiz : ¬ inr iz (tn (I (53 + 2 * tn tz) 1)) := by rw [htl]; exact r6
        refine v_bipush (v := (-13)) dX8_item_41 (by decide) ?_
        exact v_iret hr dX8_item_43 (⟨congrArg (fun z => some (Value.int z)) (by rw [ifc_t h1, ifc_f h4, ifc_f hiz]), ⟨_, scC_self _⟩, (by rw [ifc_f (show ¬ (inr tz 6 ∧ ¬ I (53 + 2 * tn tz) 0 < 0 ∧ inr iz (tn (I (53 + 2 * tn tz) 1))) from fun q => hiz q.2.2)]), ⟨_, rfl⟩, rfl, rfl⟩)
      · -- iz ge 0
        refine v_iload_n dX8_item_32 rfl 3 rfl ?_
        refine v_aload dX8_item_33 0 rfl ?_
        refine v_get (v := .int (I (53 + 2 * (tn tz)) 1)) fa_X8_256 dX8_item_35 (kd_tp (by omega)) (by decide) (lt_tp (by omega) m) rfl ?_
        refine v_is hln ?_
        refine v_icmp_lt (tgt := 44) dX8_item_38 (by decide) (fun h7 => ?_) (fun h7 => ?_)
        · -- iz lt nI ln
          have r8 : inr iz ln := inr_mk (by omega) h5 (Int32.not_le.mpr h7)
          have e9 := inr_nI r8
          have l10 := inr_lt r8
          have hiz : inr iz (tn (I (53 + 2 * tn tz) 1)) := by rw [htl]; exact r8
          refine v_aload dX8_item_44 0 rfl ?_
          refine v_get (v := .ref (g.1 + (54 + 2 * (tn tz)))) fa_X8_257 dX8_item_46 (kd_tp (by omega)) (by decide) (lt_tp (by omega) m) (by show some (va_rf ((RT _ _ _ (53 + 2 * (tn tz)) 2).map _)) = _; rw [RT_tp (by omega)]; rfl) ?_
          refine v_iload_n dX8_item_49 rfl 3 rfl ?_
          refine v_aload dX8_item_50 0 rfl ?_
          refine v_lload_n dX8_item_52 rfl 4 rfl ?_
          refine v_callVl (As := [.long zz]) (rest := [.int iz, .ref (g.1 + (54 + 2 * (tn tz)))]) lk_X8_287 (c_X6_cut (I := I) zz (tn tz) (by omega)) dX8_item_53 (kd_tp (by omega)) (lt_tp (by omega) m) rfl rfl (Nat.le_of_ble_eq_true rfl) (by decide) ?_
          refine v_lastore (len := 60) (j := (tn iz)) dX8_item_56 (kd_ti (by omega)) (lt_ti (by omega) m) (NT_ti (by omega) nl) (by decide) e9 (by omega) ?_
          refine v_iconst (v := 1) dX8_item_57 (by decide) ?_
          exact v_iret hr dX8_item_58 (⟨congrArg (fun z => some (Value.int z)) (by rw [ifc_t h1, ifc_f h4, ifc_t hiz]), ⟨_, scC_self _⟩, (by rw [ifc_t (show (inr tz 6 ∧ ¬ I (53 + 2 * tn tz) 0 < 0 ∧ inr iz (tn (I (53 + 2 * tn tz) 1))) from ⟨h1, h4, hiz⟩)]), ⟨_, rfl⟩, rfl, rfl⟩)
        · -- iz ge nI ln
          have r11 : ¬ inr iz ln := inr_hi (by omega) (Int32.not_lt.mp h7)
          have hiz : ¬ inr iz (tn (I (53 + 2 * tn tz) 1)) := by rw [htl]; exact r11
          refine v_bipush (v := (-13)) dX8_item_41 (by decide) ?_
          exact v_iret hr dX8_item_43 (⟨congrArg (fun z => some (Value.int z)) (by rw [ifc_t h1, ifc_f h4, ifc_f hiz]), ⟨_, scC_self _⟩, (by rw [ifc_f (show ¬ (inr tz 6 ∧ ¬ I (53 + 2 * tn tz) 0 < 0 ∧ inr iz (tn (I (53 + 2 * tn tz) 1))) from fun q => hiz q.2.2)]), ⟨_, rfl⟩, rfl, rfl⟩)
    · refine v_bipush (v := (-11)) dX8_item_25 (by decide) ?_
      exact v_iret hr dX8_item_27 (⟨congrArg (fun z => some (Value.int z)) (by rw [ifc_t h1, ifc_t (Classical.byContradiction h4)]), ⟨_, scC_self _⟩, (by rw [ifc_f (show ¬ (inr tz 6 ∧ ¬ I (53 + 2 * tn tz) 0 < 0 ∧ inr iz (tn (I (53 + 2 * tn tz) 1))) from fun q => h4 q.2.1)]), ⟨_, rfl⟩, rfl, rfl⟩)
  · refine v_iconst (v := (-1)) dX8_item_7 (by decide) ?_
    exact v_iret hr dX8_item_8 (⟨congrArg (fun z => some (Value.int z)) (by rw [ifc_f h1]), ⟨_, scC_self _⟩, (by rw [ifc_f (fun q => h1 q.1)]), ⟨_, rfl⟩, rfl, rfl⟩)
set_option maxRecDepth 100000 in
set_option maxHeartbeats 1000000 in
theorem c_X8_read {g : Gl} {I : Ty} {L : TL} {na nt ni m : Nat} {nl : Nat → Nat} (tz : Int32) (iz : Int32) (hT : tapC I) : Ct g yX8_read cX8_read 4 (some .long) 1 0 0 [.ref (g.1 + 0), .int tz, .int iz] I L (RT na nt ni) (NT nl) (NB + m) (PZ na ni m nl (some (.long (ifc (inr tz 6 ∧ inr iz (tn (I (53 + 2 * tn tz) 1))) (L (54 + 2 * tn tz) (tn iz)) (-9223372036854775808)))) I L) := by
  refine ct_of (by decide +kernel) (Nat.le_of_ble_eq_true rfl) (fun F hnm hr => ?_)
  clear hnm
  show V g F cX8_read RX8 4 1 0 [(0, .ref (g.1 + 0)), (1, .int tz), (2, .int iz)] [] I L (RT na nt ni) (NT nl) (NB + m) 0 0
  refine v_iload_n dX8_read_0 rfl 1 rfl ?_
  refine v_callSi (As := [.int tz]) (rest := []) lk_X8_247 (c_X8_isTape tz) dX8_read_1 rfl rfl (Nat.le_of_ble_eq_true rfl) (by decide) ?_
  refine v_ifb_ne (tgt := 11) dX8_read_4 (by decide) (fun h1 => ?_) (fun h1 => ?_)
  · have e2 := inr_nI h1
    have l3 := inr_lt h1
    obtain ⟨ln, hll, hln⟩ := hT (tn tz) (by omega)
    have htl : tn (I (53 + 2 * tn tz) 1) = ln := by rw [hln, tn_nI (by omega)]
    refine v_aload_n dX8_read_11 rfl 0 rfl ?_
    refine v_get (v := .ref (g.1 + 20)) fa_X8_37 dX8_read_12 rfl (by decide) (ltn rfl) rfl ?_
    refine v_iload_n dX8_read_15 rfl 1 rfl ?_
    refine v_aaload (len := 6) (j := (tn tz)) (t := (53 + 2 * (tn tz))) dX8_read_16 rfl (ltn rfl) rfl (by decide) e2 (by omega) (if_pos (by omega)) ?_
    refine v_astore_n (lv2 := [(3, .ref (g.1 + (53 + 2 * (tn tz)))), (0, .ref (g.1 + 0)), (1, .int tz), (2, .int iz)]) dX8_read_17 rfl (by decide) rfl ?_
    refine v_iload_n dX8_read_18 rfl 3 rfl ?_
    refine v_if_lt (tgt := 30) dX8_read_19 (by decide) (fun h4 => ?_) (fun h4 => ?_)
    · -- iz lt 0
      have r5 : ¬ inr iz ln := inr_lo h4
      have hiz : ¬ inr iz (tn (I (53 + 2 * tn tz) 1)) := by rw [htl]; exact r5
      refine v_ldc2 dX8_read_30 uc_X8_210 ?_
      refine v_goto (tgt := 42) dX8_read_33 (by decide) ?_
      exact v_lret hr dX8_read_42 (⟨congrArg (fun z => some (Value.long z)) (by rw [ifc_f (show ¬ (inr tz 6 ∧ inr iz (tn (I (53 + 2 * tn tz) 1))) from fun q => hiz q.2)]), ⟨_, scC_self _⟩, (rfl), ⟨_, rfl⟩, rfl, rfl⟩)
    · -- iz ge 0
      refine v_iload_n dX8_read_22 rfl 3 rfl ?_
      refine v_aload_n dX8_read_23 rfl 0 rfl ?_
      refine v_get (v := .int (I (53 + 2 * (tn tz)) 1)) fa_X8_256 dX8_read_24 (kd_tp (by omega)) (by decide) (lt_tp (by omega) m) rfl ?_
      refine v_is hln ?_
      refine v_icmp_lt (tgt := 36) dX8_read_27 (by decide) (fun h6 => ?_) (fun h6 => ?_)
      · -- iz lt nI ln
        have r7 : inr iz ln := inr_mk (by omega) h4 (Int32.not_le.mpr h6)
        have e8 := inr_nI r7
        have l9 := inr_lt r7
        have hiz : inr iz (tn (I (53 + 2 * tn tz) 1)) := by rw [htl]; exact r7
        refine v_aload_n dX8_read_36 rfl 0 rfl ?_
        refine v_get (v := .ref (g.1 + (54 + 2 * (tn tz)))) fa_X8_257 dX8_read_37 (kd_tp (by omega)) (by decide) (lt_tp (by omega) m) (by show some (va_rf ((RT _ _ _ (53 + 2 * (tn tz)) 2).map _)) = _; rw [RT_tp (by omega)]; rfl) ?_
        refine v_iload_n dX8_read_40 rfl 3 rfl ?_
        refine v_laload (len := 60) (j := (tn iz)) dX8_read_41 (kd_ti (by omega)) (lt_ti (by omega) m) (NT_ti (by omega) nl) (by decide) e8 (by omega) ?_
        exact v_lret hr dX8_read_42 (⟨congrArg (fun z => some (Value.long z)) (by rw [ifc_t (show (inr tz 6 ∧ inr iz (tn (I (53 + 2 * tn tz) 1))) from ⟨h1, hiz⟩)]), ⟨_, scC_self _⟩, (rfl), ⟨_, rfl⟩, rfl, rfl⟩)
      · -- iz ge nI ln
        have r10 : ¬ inr iz ln := inr_hi (by omega) (Int32.not_lt.mp h6)
        have hiz : ¬ inr iz (tn (I (53 + 2 * tn tz) 1)) := by rw [htl]; exact r10
        refine v_ldc2 dX8_read_30 uc_X8_210 ?_
        refine v_goto (tgt := 42) dX8_read_33 (by decide) ?_
        exact v_lret hr dX8_read_42 (⟨congrArg (fun z => some (Value.long z)) (by rw [ifc_f (show ¬ (inr tz 6 ∧ inr iz (tn (I (53 + 2 * tn tz) 1))) from fun q => hiz q.2)]), ⟨_, scC_self _⟩, (rfl), ⟨_, rfl⟩, rfl, rfl⟩)
  · refine v_ldc2 dX8_read_7 uc_X8_210 ?_
    exact v_lret hr dX8_read_10 (⟨congrArg (fun z => some (Value.long z)) (by rw [ifc_f (show ¬ (inr tz 6 ∧ inr iz (tn (I (53 + 2 * tn tz) 1))) from fun q => h1 q.1)]), ⟨_, scC_self _⟩, (rfl), ⟨_, rfl⟩, rfl, rfl⟩)
