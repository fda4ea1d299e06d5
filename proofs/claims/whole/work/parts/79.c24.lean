set_option maxRecDepth 100000 in
set_option maxHeartbeats 2000000 in
theorem c_X8_shift {g : Gl} {I : Ty} {L : TL} {na nt ni m : Nat} {nl : Nat → Nat} (tz : Int32) (iz : Int32) (oz : Int32) (jz : Int32) (nz : Int32) (hT : tapC I) : Ct g yX8_shift cX8_shift 8 (some .int) 1 0 0 [.ref (g.1 + 0), .int tz, .int iz, .int oz, .int jz, .int nz] I L (RT na nt ni) (NT nl) (NB + m) (PZ na ni m nl (some (.int (ifc (inr tz 6 ∧ inr oz 6) (ifc (I (53 + 2 * tn tz) 0 < 0 ∨ I (53 + 2 * tn oz) 0 < 0) (-11) (ifc (I (53 + 2 * tn tz) 0 = I (53 + 2 * tn oz) 0) (ifc (shC (tn (I (53 + 2 * tn tz) 1)) iz nz ∧ shC (tn (I (53 + 2 * tn oz) 1)) jz nz) nz (-13)) (-12))) (-1)))) I (ifc ((inr tz 6 ∧ inr oz 6) ∧ ¬ (I (53 + 2 * tn tz) 0 < 0 ∨ I (53 + 2 * tn oz) 0 < 0) ∧ I (53 + 2 * tn tz) 0 = I (53 + 2 * tn oz) 0 ∧ shC (tn (I (53 + 2 * tn tz) 1)) iz nz ∧ shC (tn (I (53 + 2 * tn oz) 1)) jz nz) (va_up L ((54 + 2 * tn oz)) (va_cpy (L ((54 + 2 * tn tz))) (L ((54 + 2 * tn oz))) (tn iz) (tn jz) (tn nz))) L)) := by
  refine ct_of (by decide +kernel) (Nat.le_of_ble_eq_true rfl) (fun F hnm hr => ?_)
  clear hnm
  show V g F cX8_shift RX8 8 1 0 [(0, .ref (g.1 + 0)), (1, .int tz), (2, .int iz), (3, .int oz), (4, .int jz), (5, .int nz)] [] I L (RT na nt ni) (NT nl) (NB + m) 0 0
  refine v_iload_n dX8_shift_0 rfl 1 rfl ?_
  refine v_callSi (As := [.int tz]) (rest := []) lk_X8_247 (c_X8_isTape tz) dX8_shift_1 rfl rfl (Nat.le_of_ble_eq_true rfl) (by decide) ?_
  refine v_ifb_eq (tgt := 14) dX8_shift_4 (by decide) (fun h1 => ?_) (fun h1 => ?_)
  · refine v_iconst (v := (-1)) dX8_shift_14 (by decide) ?_
    exact v_iret hr dX8_shift_15 (⟨congrArg (fun z => some (Value.int z)) (by rw [ifc_f (fun q => h1 q.1)]), ⟨_, scC_self _⟩, (by rw [ifc_f (show ¬ ((inr tz 6 ∧ inr oz 6) ∧ ¬ (I (53 + 2 * tn tz) 0 < 0 ∨ I (53 + 2 * tn oz) 0 < 0) ∧ I (53 + 2 * tn tz) 0 = I (53 + 2 * tn oz) 0 ∧ shC (tn (I (53 + 2 * tn tz) 1)) iz nz ∧ shC (tn (I (53 + 2 * tn oz) 1)) jz nz) from fun q => h1 q.1.1)]), ⟨_, rfl⟩, rfl, rfl⟩)
  · have e2 := inr_nI h1
    have l3 := inr_lt h1
    obtain ⟨lntz, hlltz, hlntz⟩ := hT (tn tz) (by omega)
    have htltz : tn (I (53 + 2 * tn tz) 1) = lntz := by rw [hlntz, tn_nI (by omega)]
    refine v_iload_n dX8_shift_7 rfl 3 rfl ?_
    refine v_callSi (As := [.int oz]) (rest := []) lk_X8_247 (c_X8_isTape oz) dX8_shift_8 rfl rfl (Nat.le_of_ble_eq_true rfl) (by decide) ?_
    refine v_ifb_ne (tgt := 16) dX8_shift_11 (by decide) (fun h4 => ?_) (fun h4 => ?_)
    · have e5 := inr_nI h4
      have l6 := inr_lt h4
      obtain ⟨lnoz, hlloz, hlnoz⟩ := hT (tn oz) (by omega)
      have htloz : tn (I (53 + 2 * tn oz) 1) = lnoz := by rw [hlnoz, tn_nI (by omega)]
      have hii : inr tz 6 ∧ inr oz 6 := ⟨h1, h4⟩
      refine v_aload_n dX8_shift_16 rfl 0 rfl ?_
      refine v_get (v := .ref (g.1 + 20)) fa_X8_37 dX8_shift_17 rfl (by decide) (ltn rfl) rfl ?_
      refine v_iload_n dX8_shift_20 rfl 1 rfl ?_
      refine v_aaload (len := 6) (j := (tn tz)) (t := (53 + 2 * (tn tz))) dX8_shift_21 rfl (ltn rfl) rfl (by decide) e2 (by omega) (if_pos (by omega)) ?_
      refine v_astore (lv2 := [(6, .ref (g.1 + (53 + 2 * (tn tz)))), (0, .ref (g.1 + 0)), (1, .int tz), (2, .int iz), (3, .int oz), (4, .int jz), (5, .int nz)]) dX8_shift_22 (by decide) rfl ?_
      refine v_aload_n dX8_shift_24 rfl 1 rfl ?_
      refine v_get (v := .ref (g.1 + 20)) fa_X8_37 dX8_shift_25 rfl (by decide) (ltn rfl) rfl ?_
      refine v_iload_n dX8_shift_28 rfl 4 rfl ?_
      refine v_aaload (len := 6) (j := (tn oz)) (t := (53 + 2 * (tn oz))) dX8_shift_29 rfl (ltn rfl) rfl (by decide) e5 (by omega) (if_pos (by omega)) ?_
      refine v_astore (lv2 := [(7, .ref (g.1 + (53 + 2 * (tn oz)))), (6, .ref (g.1 + (53 + 2 * (tn tz)))), (0, .ref (g.1 + 0)), (1, .int tz), (2, .int iz), (3, .int oz), (4, .int jz), (5, .int nz)]) dX8_shift_30 (by decide) rfl ?_
      refine v_aload dX8_shift_32 1 rfl ?_
      refine v_callVi (As := []) (rest := []) lk_X8_250 (c_X6_isThere (I := I) (tn tz) (by omega)) dX8_shift_34 (kd_tp (by omega)) (lt_tp (by omega) m) rfl rfl (Nat.le_of_ble_eq_true rfl) (by decide) ?_
      refine v_ifb_eq (tgt := 48) dX8_shift_37 (by decide) (fun h7 => ?_) (fun h7 => ?_)
      · have hneg : I (53 + 2 * tn tz) 0 < 0 ∨ I (53 + 2 * tn oz) 0 < 0 := Or.inl (Classical.byContradiction h7)
        refine v_bipush (v := (-11)) dX8_shift_48 (by decide) ?_
        exact v_iret hr dX8_shift_50 (⟨congrArg (fun z => some (Value.int z)) (by rw [ifc_t hii, ifc_t hneg]), ⟨_, scC_self _⟩, (by rw [ifc_f (show ¬ ((inr tz 6 ∧ inr oz 6) ∧ ¬ (I (53 + 2 * tn tz) 0 < 0 ∨ I (53 + 2 * tn oz) 0 < 0) ∧ I (53 + 2 * tn tz) 0 = I (53 + 2 * tn oz) 0 ∧ shC (tn (I (53 + 2 * tn tz) 1)) iz nz ∧ shC (tn (I (53 + 2 * tn oz) 1)) jz nz) from fun q => q.2.1 hneg)]), ⟨_, rfl⟩, rfl, rfl⟩)
      · refine v_aload dX8_shift_40 0 rfl ?_
        refine v_callVi (As := []) (rest := []) lk_X8_250 (c_X6_isThere (I := I) (tn oz) (by omega)) dX8_shift_42 (kd_tp (by omega)) (lt_tp (by omega) m) rfl rfl (Nat.le_of_ble_eq_true rfl) (by decide) ?_
        refine v_ifb_ne (tgt := 51) dX8_shift_45 (by decide) (fun h8 => ?_) (fun h8 => ?_)
        · have hpos : ¬ (I (53 + 2 * tn tz) 0 < 0 ∨ I (53 + 2 * tn oz) 0 < 0) := fun q => q.elim h7 h8
          refine v_aload dX8_shift_51 1 rfl ?_
          refine v_get (v := .int (I (53 + 2 * (tn tz)) 0)) fa_X8_253 dX8_shift_53 (kd_tp (by omega)) (by decide) (lt_tp (by omega) m) rfl ?_
          refine v_aload dX8_shift_56 0 rfl ?_
          refine v_get (v := .int (I (53 + 2 * (tn oz)) 0)) fa_X8_253 dX8_shift_58 (kd_tp (by omega)) (by decide) (lt_tp (by omega) m) rfl ?_
          refine v_icmp_eq (tgt := 67) dX8_shift_61 (by decide) (fun h10 => ?_) (fun h10 => ?_)
          · refine v_aload dX8_shift_67 1 rfl ?_
            refine v_iload_n dX8_shift_69 rfl 4 rfl ?_
            refine v_iload dX8_shift_70 7 rfl ?_
            refine v_callVi (As := [.int iz, .int nz]) (rest := []) lk_X8_291 (c_X6_holds (I := I) iz nz (tn tz) (by omega) lntz hlltz hlntz) dX8_shift_72 (kd_tp (by omega)) (lt_tp (by omega) m) rfl rfl (Nat.le_of_ble_eq_true rfl) (by decide) ?_
            refine v_ifb_eq (tgt := 90) dX8_shift_75 (by decide) (fun h11 => ?_) (fun h11 => ?_)
            · have hshtz : ¬ shC (tn (I (53 + 2 * tn tz) 1)) iz nz := by rw [htltz]; exact h11
              refine v_bipush (v := (-13)) dX8_shift_90 (by decide) ?_
              exact v_iret hr dX8_shift_92 (⟨congrArg (fun z => some (Value.int z)) (by rw [ifc_t hii, ifc_f hpos, ifc_t h10, ifc_f (fun q => hshtz q.1)]), ⟨_, scC_self _⟩, (by rw [ifc_f (show ¬ ((inr tz 6 ∧ inr oz 6) ∧ ¬ (I (53 + 2 * tn tz) 0 < 0 ∨ I (53 + 2 * tn oz) 0 < 0) ∧ I (53 + 2 * tn tz) 0 = I (53 + 2 * tn oz) 0 ∧ shC (tn (I (53 + 2 * tn tz) 1)) iz nz ∧ shC (tn (I (53 + 2 * tn oz) 1)) jz nz) from fun q => hshtz q.2.2.2.1)]), ⟨_, rfl⟩, rfl, rfl⟩)
            · have hshtz : shC (tn (I (53 + 2 * tn tz) 1)) iz nz := by rw [htltz]; exact h11
              obtain ⟨hxtz1, hxtz2, hxtz3⟩ := h11
              have hetz := nI_tn (nlt0 hxtz1)
              have henz := nI_tn (nlt0 hxtz2)
              refine v_aload dX8_shift_78 0 rfl ?_
              refine v_iload dX8_shift_80 6 rfl ?_
              refine v_iload dX8_shift_82 7 rfl ?_
              refine v_callVi (As := [.int jz, .int nz]) (rest := []) lk_X8_291 (c_X6_holds (I := I) jz nz (tn oz) (by omega) lnoz hlloz hlnoz) dX8_shift_84 (kd_tp (by omega)) (lt_tp (by omega) m) rfl rfl (Nat.le_of_ble_eq_true rfl) (by decide) ?_
              refine v_ifb_ne (tgt := 93) dX8_shift_87 (by decide) (fun h12 => ?_) (fun h12 => ?_)
              · have hshoz : shC (tn (I (53 + 2 * tn oz) 1)) jz nz := by rw [htloz]; exact h12
                obtain ⟨hxoz1, hxoz2, hxoz3⟩ := h12
                have heoz := nI_tn (nlt0 hxoz1)
                refine v_aload dX8_shift_93 1 rfl ?_
                refine v_get (v := .ref (g.1 + (54 + 2 * (tn tz)))) fa_X8_257 dX8_shift_95 (kd_tp (by omega)) (by decide) (lt_tp (by omega) m) (by show some (va_rf ((RT _ _ _ (53 + 2 * (tn tz)) 2).map _)) = _; rw [RT_tp (by omega)]; rfl) ?_
                refine v_iload_n dX8_shift_98 rfl 4 rfl ?_
                refine v_aload dX8_shift_99 0 rfl ?_
                refine v_get (v := .ref (g.1 + (54 + 2 * (tn oz)))) fa_X8_257 dX8_shift_101 (kd_tp (by omega)) (by decide) (lt_tp (by omega) m) (by show some (va_rf ((RT _ _ _ (53 + 2 * (tn oz)) 2).map _)) = _; rw [RT_tp (by omega)]; rfl) ?_
                refine v_iload dX8_shift_104 6 rfl ?_
                refine v_iload dX8_shift_106 7 rfl ?_
                refine v_st (st2 := [.int (nI (tn nz)), .int (nI (tn jz)), .ref (g.1 + (54 + 2 * (tn oz))), .int (nI (tn iz)), .ref (g.1 + (54 + 2 * (tn tz)))]) (by rw [← henz, ← heoz, ← hetz]) ?_
                refine v_copyl (n0 := 60) (n1 := 60) (sp := tn iz) (dp := tn jz) (nn := tn nz) (J := (va_cpy (L (54 + 2 * (tn tz))) (L (54 + 2 * (tn oz))) (tn iz) (tn jz) (tn nz))) ar_X8_294 dX8_shift_108 (kd_ti (by omega)) (lt_ti (by omega) m) (NT_ti (by omega) nl) (kd_ti (by omega)) (lt_ti (by omega) m) (NT_ti (by omega) nl) (by omega) (by omega) (by decide) (by decide) (by decide) (Nat.le_of_ble_eq_true rfl) (fun j hj => rfl) ?_
                refine v_iload dX8_shift_111 7 rfl ?_
                exact v_iret hr dX8_shift_113 (⟨congrArg (fun z => some (Value.int z)) (by rw [ifc_t hii, ifc_f hpos, ifc_t h10, ifc_t ⟨hshtz, hshoz⟩]), ⟨_, scC_self _⟩, (by rw [ifc_t (show ((inr tz 6 ∧ inr oz 6) ∧ ¬ (I (53 + 2 * tn tz) 0 < 0 ∨ I (53 + 2 * tn oz) 0 < 0) ∧ I (53 + 2 * tn tz) 0 = I (53 + 2 * tn oz) 0 ∧ shC (tn (I (53 + 2 * tn tz) 1)) iz nz ∧ shC (tn (I (53 + 2 * tn oz) 1)) jz nz) from ⟨hii, hpos, h10, hshtz, hshoz⟩)]), ⟨_, rfl⟩, rfl, rfl⟩)
              · have hshoz : ¬ shC (tn (I (53 + 2 * tn oz) 1)) jz nz := by rw [htloz]; exact h12
                refine v_bipush (v := (-13)) dX8_shift_90 (by decide) ?_
                exact v_iret hr dX8_shift_92 (⟨congrArg (fun z => some (Value.int z)) (by rw [ifc_t hii, ifc_f hpos, ifc_t h10, ifc_f (fun q => hshoz q.2)]), ⟨_, scC_self _⟩, (by rw [ifc_f (show ¬ ((inr tz 6 ∧ inr oz 6) ∧ ¬ (I (53 + 2 * tn tz) 0 < 0 ∨ I (53 + 2 * tn oz) 0 < 0) ∧ I (53 + 2 * tn tz) 0 = I (53 + 2 * tn oz) 0 ∧ shC (tn (I (53 + 2 * tn tz) 1)) iz nz ∧ shC (tn (I (53 + 2 * tn oz) 1)) jz nz) from fun q => hshoz q.2.2.2.2)]), ⟨_, rfl⟩, rfl, rfl⟩)
          · refine v_bipush (v := (-12)) dX8_shift_64 (by decide) ?_
            exact v_iret hr dX8_shift_66 (⟨congrArg (fun z => some (Value.int z)) (by rw [ifc_t hii, ifc_f hpos, ifc_f h10]), ⟨_, scC_self _⟩, (by rw [ifc_f (show ¬ ((inr tz 6 ∧ inr oz 6) ∧ ¬ (I (53 + 2 * tn tz) 0 < 0 ∨ I (53 + 2 * tn oz) 0 < 0) ∧ I (53 + 2 * tn tz) 0 = I (53 + 2 * tn oz) 0 ∧ shC (tn (I (53 + 2 * tn tz) 1)) iz nz ∧ shC (tn (I (53 + 2 * tn oz) 1)) jz nz) from fun q => h10 q.2.2.1)]), ⟨_, rfl⟩, rfl, rfl⟩)
        · have hneg : I (53 + 2 * tn tz) 0 < 0 ∨ I (53 + 2 * tn oz) 0 < 0 := Or.inr (Classical.byContradiction h8)
          refine v_bipush (v := (-11)) dX8_shift_48 (by decide) ?_
          exact v_iret hr dX8_shift_50 (⟨congrArg (fun z => some (Value.int z)) (by rw [ifc_t hii, ifc_t hneg]), ⟨_, scC_self _⟩, (by rw [ifc_f (show ¬ ((inr tz 6 ∧ inr oz 6) ∧ ¬ (I (53 + 2 * tn tz) 0 < 0 ∨ I (53 + 2 * tn oz) 0 < 0) ∧ I (53 + 2 * tn tz) 0 = I (53 + 2 * tn oz) 0 ∧ shC (tn (I (53 + 2 * tn tz) 1)) iz nz ∧ shC (tn (I (53 + 2 * tn oz) 1)) jz nz) from fun q => q.2.1 hneg)]), ⟨_, rfl⟩, rfl, rfl⟩)
    · refine v_iconst (v := (-1)) dX8_shift_14 (by decide) ?_
      exact v_iret hr dX8_shift_15 (⟨congrArg (fun z => some (Value.int z)) (by rw [ifc_f (fun q => h4 q.2)]), ⟨_, scC_self _⟩, (by rw [ifc_f (show ¬ ((inr tz 6 ∧ inr oz 6) ∧ ¬ (I (53 + 2 * tn tz) 0 < 0 ∨ I (53 + 2 * tn oz) 0 < 0) ∧ I (53 + 2 * tn tz) 0 = I (53 + 2 * tn oz) 0 ∧ shC (tn (I (53 + 2 * tn tz) 1)) iz nz ∧ shC (tn (I (53 + 2 * tn oz) 1)) jz nz) from fun q => h4 q.1.2)]), ⟨_, rfl⟩, rfl, rfl⟩)
set_option maxRecDepth 100000 in
set_option maxHeartbeats 2000000 in
theorem c_X8_judge {g : Gl} {I : Ty} {L : TL} {na nt ni m : Nat} {nl : Nat → Nat} (tz : Int32) (iz : Int32) (hT : tapC I) : Ct g yX8_judge cX8_judge 5 (some .int) 2 0 0 [.ref (g.1 + 0), .int tz, .int iz] I L (RT na nt ni) (NT nl) (NB + m) (PZ na ni m nl (some (.int (ifc (inr tz 6) (ifc (0 < I (53 + 2 * tn tz) 0) (-12) (jdgF (I (53 + 2 * tn tz) 0) (tn (I (53 + 2 * tn tz) 1)) 0 (L (54 + 2 * tn tz)) (I 24) iz)) (-1)))) (I) L) := by
  refine ct_of (by decide +kernel) (Nat.le_of_ble_eq_true rfl) (fun F hnm hr => ?_)
  clear hnm
  show V g F cX8_judge RX8 5 2 0 [(0, .ref (g.1 + 0)), (1, .int tz), (2, .int iz)] [] I L (RT na nt ni) (NT nl) (NB + m) 0 0
  refine v_iload_n dX8_judge_0 rfl 1 rfl ?_
  refine v_callSi (As := [.int tz]) (rest := []) lk_X8_247 (c_X8_isTape tz) dX8_judge_1 rfl rfl (Nat.le_of_ble_eq_true rfl) (by decide) ?_
  refine v_ifb_ne (tgt := 9) dX8_judge_4 (by decide) (fun h1 => ?_) (fun h1 => ?_)
  · have e2 := inr_nI h1
    have l3 := inr_lt h1
    obtain ⟨ln, hll, hln⟩ := hT (tn tz) (by omega)
    have htl : tn (I (53 + 2 * tn tz) 1) = ln := by rw [hln, tn_nI (by omega)]
    refine v_aload_n dX8_judge_9 rfl 0 rfl ?_
    refine v_get (v := .ref (g.1 + 20)) fa_X8_37 dX8_judge_10 rfl (by decide) (ltn rfl) rfl ?_
    refine v_iload_n dX8_judge_13 rfl 1 rfl ?_
    refine v_aaload (len := 6) (j := (tn tz)) (t := (53 + 2 * (tn tz))) dX8_judge_14 rfl (ltn rfl) rfl (by decide) e2 (by omega) (if_pos (by omega)) ?_
    refine v_astore_n (lv2 := [(3, .ref (g.1 + (53 + 2 * (tn tz)))), (0, .ref (g.1 + 0)), (1, .int tz), (2, .int iz)]) dX8_judge_15 rfl (by decide) rfl ?_
    refine v_aload_n dX8_judge_16 rfl 0 rfl ?_
    refine v_callVi (As := []) (rest := []) lk_X8_250 (c_X6_isThere (I := I) (tn tz) (by omega)) dX8_judge_17 (kd_tp (by omega)) (lt_tp (by omega) m) rfl rfl (Nat.le_of_ble_eq_true rfl) (by decide) ?_
    refine v_ifb_eq (tgt := 33) dX8_judge_20 (by decide) (fun h4 => ?_) (fun h4 => ?_)
    · have hlt0 := Classical.byContradiction h4
      have hnp : ¬ 0 < (I (53 + 2 * (tn tz)) 0) := fun q => absurd (Int32.lt_trans q hlt0) (by decide)
      refine v_iload_n dX8_judge_33 rfl 3 rfl ?_
      refine v_if_lt (tgt := 44) dX8_judge_34 (by decide) (fun h6 => ?_) (fun h6 => ?_)
      · refine v_bipush (v := 100) dX8_judge_44 (by decide) ?_
        exact v_iret hr dX8_judge_46 (⟨congrArg (fun z => some (Value.int z)) (by rw [ifc_t h1, ifc_f hnp, htl]; exact (jdg_o (i := 0) (by decide) (fun j h => absurd h (Nat.not_lt_zero j)) (Or.inr (Or.inl h6))).symm), ⟨_, scC_self _⟩, rfl, ⟨_, rfl⟩, rfl, rfl⟩)
      · have hil : ¬ iz < 0 := h6
        refine v_aload_n dX8_judge_37 rfl 0 rfl ?_
        refine v_callVi (As := []) (rest := []) lk_X8_250 (c_X6_isThere (I := I) (tn tz) (by omega)) dX8_judge_38 (kd_tp (by omega)) (lt_tp (by omega) m) rfl rfl (Nat.le_of_ble_eq_true rfl) (by decide) ?_
        refine v_ifb_ne (tgt := 47) dX8_judge_41 (by decide) (fun h7 => ?_) (fun h7 => ?_)
        · exact absurd h7 h4
        · refine v_bipush (v := 100) dX8_judge_44 (by decide) ?_
          exact v_iret hr dX8_judge_46 (⟨congrArg (fun z => some (Value.int z)) (by rw [ifc_t h1, ifc_f hnp, htl]; exact (jdg_o (i := 0) (by decide) (fun j h => absurd h (Nat.not_lt_zero j)) (Or.inl hlt0)).symm), ⟨_, scC_self _⟩, rfl, ⟨_, rfl⟩, rfl, rfl⟩)
    · refine v_aload_n dX8_judge_23 rfl 0 rfl ?_
      refine v_get (v := .int (I (53 + 2 * (tn tz)) 0)) fa_X8_253 dX8_judge_24 (kd_tp (by omega)) (by decide) (lt_tp (by omega) m) rfl ?_
      refine v_if_eq (tgt := 33) dX8_judge_27 (by decide) (fun h9 => ?_) (fun h9 => ?_)
      · have hnp : ¬ 0 < (I (53 + 2 * (tn tz)) 0) := by rw [h9]; decide
        refine v_iload_n dX8_judge_33 rfl 3 rfl ?_
        refine v_if_lt (tgt := 44) dX8_judge_34 (by decide) (fun h11 => ?_) (fun h11 => ?_)
        · refine v_bipush (v := 100) dX8_judge_44 (by decide) ?_
          exact v_iret hr dX8_judge_46 (⟨congrArg (fun z => some (Value.int z)) (by rw [ifc_t h1, ifc_f hnp, htl]; exact (jdg_o (i := 0) (by decide) (fun j h => absurd h (Nat.not_lt_zero j)) (Or.inr (Or.inl h11))).symm), ⟨_, scC_self _⟩, rfl, ⟨_, rfl⟩, rfl, rfl⟩)
        · have hil : ¬ iz < 0 := h11
          refine v_aload_n dX8_judge_37 rfl 0 rfl ?_
          refine v_callVi (As := []) (rest := []) lk_X8_250 (c_X6_isThere (I := I) (tn tz) (by omega)) dX8_judge_38 (kd_tp (by omega)) (lt_tp (by omega) m) rfl rfl (Nat.le_of_ble_eq_true rfl) (by decide) ?_
          refine v_ifb_ne (tgt := 47) dX8_judge_41 (by decide) (fun h12 => ?_) (fun h12 => ?_)
          · refine v_iconst (v := 0) dX8_judge_47 (by decide) ?_
            refine v_istore (lv2 := [(4, .int 0), (3, .ref (g.1 + (53 + 2 * (tn tz)))), (0, .ref (g.1 + 0)), (1, .int tz), (2, .int iz)]) dX8_judge_48 (by decide) rfl ?_
            refine v_sub (lv2 := [(4, .int 0), (0, .ref (g.1 + 0)), (2, .int iz), (3, .ref (g.1 + (53 + 2 * (tn tz))))]) [0, 2, 4, 1] rfl ?_
            refine v_lv (lv2 := [(4, .int (nI 0)), (0, .ref (g.1 + 0)), (2, .int iz), (3, .ref (g.1 + (53 + 2 * (tn tz))))]) (by rfl) ?_
            refine dloop (P := fun i => (∀ j, j < i → ¬ (jhit (I (53 + 2 * tn tz) 0) ln 0 (L (54 + 2 * tn tz)) (I 24) iz) j) → V g F cX8_judge RX8 5 2 50 [(4, .int (nI i)), (0, .ref (g.1 + 0)), (2, .int iz), (3, .ref (g.1 + (53 + 2 * (tn tz))))] [] I L (RT na nt ni) (NT nl) (NB + m) 0 0) 16 ?_ ?_ 0 (Nat.zero_le _) (fun j h => absurd h (Nat.not_lt_zero j))
            · intro hinv
              refine v_iload dX8_judge_50 0 rfl ?_
              refine v_bipush (v := 16) dX8_judge_52 (by decide) ?_
              refine v_icmp_geN (a := 16) (b := 16) (tgt := 107) dX8_judge_54 (by decide) rfl rfl (by omega) (by omega) (fun h13 => ?_) (fun h => by exfalso; omega)
              refine v_bipush (v := (-5)) dX8_judge_107 (by decide) ?_
              exact v_iret hr dX8_judge_109 (⟨congrArg (fun z => some (Value.int z)) (by rw [ifc_t h1, ifc_f hnp, htl]; exact (jdg_e hinv).symm), ⟨_, scC_self _⟩, rfl, ⟨_, rfl⟩, rfl, rfl⟩)
            · intro i hi ih
              intro hinv
              have hge := jd_ge (ln := ln) (c := i) hll hi hil
              have hze := nI_tn (nlt0 hil)
              refine v_iload dX8_judge_50 0 rfl ?_
              refine v_bipush (v := 16) dX8_judge_52 (by decide) ?_
              refine v_icmp_geN (a := i) (b := 16) (tgt := 107) dX8_judge_54 (by decide) rfl rfl (by omega) (by omega) (fun h => by exfalso; omega) (fun h14 => ?_)
              refine v_iload_n dX8_judge_57 rfl 2 rfl ?_
              refine v_aload_n dX8_judge_58 rfl 3 rfl ?_
              refine v_get (v := .int (I (53 + 2 * (tn tz)) 1)) fa_X8_256 dX8_judge_59 (kd_tp (by omega)) (by decide) (lt_tp (by omega) m) rfl ?_
              refine v_is hln ?_
              refine v_iload dX8_judge_62 0 rfl ?_
              refine v_isub dX8_judge_64 ?_
              refine v_icmp_lt (tgt := 74) dX8_judge_65 (by decide) (fun h16 => ?_) (fun h16 => ?_)
              · have hlt : tn iz + i < ln := Nat.not_le.mp (fun q => absurd (hge.mpr q) (Int32.not_le.mpr h16))
                have hno : ¬ jout (I (53 + 2 * (tn tz)) 0) ln iz i := fun q => q.elim h4 (fun q => q.elim hil (fun q => absurd hlt (Nat.not_lt.mpr q)))
                refine v_aload_n dX8_judge_74 rfl 3 rfl ?_
                refine v_get (v := .ref (g.1 + (54 + 2 * (tn tz)))) fa_X8_257 dX8_judge_75 (kd_tp (by omega)) (by decide) (lt_tp (by omega) m) (by show some (va_rf ((RT _ _ _ (53 + 2 * (tn tz)) 2).map _)) = _; rw [RT_tp (by omega)]; rfl) ?_
                refine v_iload_n dX8_judge_78 rfl 2 rfl ?_
                refine v_iload dX8_judge_79 0 rfl ?_
                refine v_iadd dX8_judge_81 ?_
                refine v_is (nx_add hze rfl) ?_
                refine v_laload (len := 60) (j := ((tn iz) + i)) dX8_judge_82 (kd_ti (by omega)) (lt_ti (by omega) m) (NT_ti (by omega) nl) (by decide) rfl (by omega) ?_
                refine v_aload_n dX8_judge_83 rfl 1 rfl ?_
                refine v_get (v := .ref (g.1 + 23)) fa_X8_51 dX8_judge_84 rfl (by decide) (ltn rfl) rfl ?_
                refine v_get (v := .ref (g.1 + 24)) fa_X8_122 dX8_judge_87 rfl (by decide) (ltn rfl) rfl ?_
                refine v_iload dX8_judge_90 0 rfl ?_
                refine v_iaload (len := 16) (j := i) dX8_judge_92 rfl (ltn rfl) rfl (by decide) rfl (by omega) ?_
                refine v_i2l dX8_judge_93 ?_
                refine v_lcmp dX8_judge_94 ?_
                refine v_if_eq (tgt := 101) dX8_judge_95 (by decide) (fun h18 => ?_) (fun h18 => ?_)
                · have hsame := (lcmp0 _ _).mp h18
                  refine v_inc (v := nI (i + 1)) (lv2 := [(4, .int (nI (i + 1))), (0, .ref (g.1 + 0)), (2, .int iz), (3, .ref (g.1 + (53 + 2 * (tn tz))))]) dX8_judge_101 0 rfl (nx_inc rfl) (by decide) rfl ?_
                  refine v_goto (tgt := 50) dX8_judge_104 (by decide) ?_
                  exact ih (ks_step hinv (fun q => q.elim hno (fun q => q (by rw [Nat.zero_add]; exact hsame))))
                · have hdif := fun q => h18 ((lcmp0 _ _).mpr q)
                  refine v_iload dX8_judge_98 0 rfl ?_
                  exact v_iret hr dX8_judge_100 (⟨congrArg (fun z => some (Value.int z)) (by rw [ifc_t h1, ifc_f hnp, htl]; exact (jdg_c hi hinv hno (by rw [Nat.zero_add]; exact hdif)).symm), ⟨_, scC_self _⟩, rfl, ⟨_, rfl⟩, rfl, rfl⟩)
              · refine v_bipush (v := 100) dX8_judge_68 (by decide) ?_
                refine v_iload dX8_judge_70 0 rfl ?_
                refine v_iadd dX8_judge_72 ?_
                refine v_is (nx_add rfl rfl) ?_
                exact v_iret hr dX8_judge_73 (⟨congrArg (fun z => some (Value.int z)) (by rw [ifc_t h1, ifc_f hnp, htl]; exact (jdg_o hi hinv (Or.inr (Or.inr (hge.mp (Int32.not_lt.mp h16))))).symm), ⟨_, scC_self _⟩, rfl, ⟨_, rfl⟩, rfl, rfl⟩)
          · exact absurd h4 h12
      · have hp : 0 < (I (53 + 2 * (tn tz)) 0) := Int32.lt_of_le_of_ne (Int32.not_lt.mp h4) (fun q => h9 q.symm)
        refine v_bipush (v := (-12)) dX8_judge_30 (by decide) ?_
        exact v_iret hr dX8_judge_32 (⟨congrArg (fun z => some (Value.int z)) (by rw [ifc_t h1, ifc_t hp]), ⟨_, scC_self _⟩, (rfl), ⟨_, rfl⟩, rfl, rfl⟩)
  · refine v_iconst (v := (-1)) dX8_judge_7 (by decide) ?_
    exact v_iret hr dX8_judge_8 (⟨congrArg (fun z => some (Value.int z)) (by rw [ifc_f h1]), ⟨_, scC_self _⟩, (rfl), ⟨_, rfl⟩, rfl, rfl⟩)
