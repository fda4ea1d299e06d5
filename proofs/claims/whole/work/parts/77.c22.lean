theorem tp_cases {P : Nat → Prop} (h : P 0 ∧ P 1 ∧ P 2 ∧ P 3 ∧ P 4 ∧ P 5) : ∀ t, t < 6 → P t := fun t ht => by
  rcases (show t = 0 ∨ t = 1 ∨ t = 2 ∨ t = 3 ∨ t = 4 ∨ t = 5 by omega) with e | e | e | e | e | e <;> subst e
  · exact h.1
  · exact h.2.1
  · exact h.2.2.1
  · exact h.2.2.2.1
  · exact h.2.2.2.2.1
  · exact h.2.2.2.2.2
theorem kd_tp {t : Nat} (ht : t < 6) : kd (53 + 2 * t) = 6 := tp_cases (P := fun t => kd (53 + 2 * t) = 6) ⟨rfl, rfl, rfl, rfl, rfl, rfl⟩ t ht
theorem kd_ti {t : Nat} (ht : t < 6) : kd (54 + 2 * t) = 10 := tp_cases (P := fun t => kd (54 + 2 * t) = 10) ⟨rfl, rfl, rfl, rfl, rfl, rfl⟩ t ht
theorem lt_tp {t : Nat} (ht : t < 6) (m : Nat) : 53 + 2 * t < NB + m := by unfold NB; omega
theorem lt_ti {t : Nat} (ht : t < 6) (m : Nat) : 54 + 2 * t < NB + m := by unfold NB; omega
theorem NT_ti {t : Nat} (ht : t < 6) (nl : Nat → Nat) : NT nl (54 + 2 * t) = 60 := tp_cases (P := fun t => NT nl (54 + 2 * t) = 60) ⟨rfl, rfl, rfl, rfl, rfl, rfl⟩ t ht
theorem RT_tp {t : Nat} (ht : t < 6) (na nt ni : Nat) : RT na nt ni (53 + 2 * t) 2 = some (54 + 2 * t) := tp_cases (P := fun t => RT na nt ni (53 + 2 * t) 2 = some (54 + 2 * t)) ⟨rfl, rfl, rfl, rfl, rfl, rfl⟩ t ht
def lzc (L : TL) (b : Nat) : Nat → TL
  | 0 => L
  | k + 1 => va_up (lzc L b k) b (va_up (lzc L b k b) k 0)
noncomputable def cutF (sz : Int32) (z : Int64) : Int64 := ifc (sz = 0) z.toInt32.toInt8.toInt32.toInt64 (ifc (sz = 1) z.toInt32.toInt16.toInt32.toInt64 (ifc (sz = 2) z.toInt32.toInt64 (ifc (sz = 3) z (ifc (z = 0) 0 1))))
set_option maxRecDepth 100000 in
set_option maxHeartbeats 400000 in
theorem c_X6_isThere {g : Gl} {I : Ty} {L : TL} {na nt ni m : Nat} {nl : Nat → Nat}  (tz : Nat) (htz : tz < 6) : Ct g yX6_isThere cX6_isThere 1 (some .boolean) 0 0 0 [.ref (g.1 + (53 + 2 * tz))] I L (RT na nt ni) (NT nl) (NB + m) (Ps (some (.int (bq (¬ I (53 + 2 * tz) 0 < 0)))) (I) L (RT na nt ni) (NT nl) (NB + m)) := by
  refine ct_of (by decide +kernel) (Nat.le_of_ble_eq_true rfl) (fun F hnm hr => ?_)
  clear hnm
  show V g F cX6_isThere RX6 1 0 0 [(0, .ref (g.1 + (53 + 2 * tz)))] [] I L (RT na nt ni) (NT nl) (NB + m) 0 0
  refine v_aload_n dX6_isThere_0 rfl 0 rfl ?_
  refine v_get (v := .int (I (53 + 2 * tz) 0)) fa_X6_7 dX6_isThere_1 (kd_tp (by omega)) (by decide) (lt_tp (by omega) m) rfl ?_
  refine v_if_lt (tgt := 11) dX6_isThere_4 (by decide) (fun h2 => ?_) (fun h2 => ?_)
  · refine v_iconst (v := 0) dX6_isThere_11 (by decide) ?_
    exact v_zret hr dX6_isThere_12 (by first | rfl | exact nbq) (psi (bq_f (fun q => q h2)).symm rfl)
  · refine v_iconst (v := 1) dX6_isThere_7 (by decide) ?_
    refine v_goto (tgt := 12) dX6_isThere_8 (by decide) ?_
    exact v_zret hr dX6_isThere_12 (by first | rfl | exact nbq) (psi (bq_t h2).symm rfl)
set_option maxRecDepth 100000 in
set_option maxHeartbeats 1000000 in
theorem c_X6_become {g : Gl} {I : Ty} {L : TL} {na nt ni m : Nat} {nl : Nat → Nat} (sz : Int32) (nz : Int32) (tz : Nat) (htz : tz < 6) : Ct g yX6_become cX6_become 4 none 0 0 0 [.ref (g.1 + (53 + 2 * tz)), .int sz, .int nz] I L (RT na nt ni) (NT nl) (NB + m) (Ps none (wr (wr I (53 + 2 * tz) 0 sz) (53 + 2 * tz) 1 nz) (lzc L (54 + 2 * tz) 60) (RT na nt ni) (NT nl) (NB + m)) := by
  refine ct_of (by decide +kernel) (Nat.le_of_ble_eq_true rfl) (fun F hnm hr => ?_)
  clear hnm
  show V g F cX6_become RX6 4 0 0 [(0, .ref (g.1 + (53 + 2 * tz))), (1, .int sz), (2, .int nz)] [] I L (RT na nt ni) (NT nl) (NB + m) 0 0
  refine v_aload_n dX6_become_0 rfl 0 rfl ?_
  refine v_iload_n dX6_become_1 rfl 1 rfl ?_
  refine v_puti pa_X6_7 dX6_become_2 (kd_tp (by omega)) (by decide) (lt_tp (by omega) m) (by show 0 < 3; decide) rfl ?_
  refine v_aload_n dX6_become_5 rfl 0 rfl ?_
  refine v_iload_n dX6_become_6 rfl 2 rfl ?_
  refine v_puti pa_X6_17 dX6_become_7 (kd_tp (by omega)) (by decide) (lt_tp (by omega) m) (by show 1 < 3; decide) rfl ?_
  refine v_iconst (v := 0) dX6_become_10 (by decide) ?_
  refine v_istore_n (lv2 := [(3, .int 0), (0, .ref (g.1 + (53 + 2 * tz))), (1, .int sz), (2, .int nz)]) dX6_become_11 rfl (by decide) rfl ?_
  refine v_lv (lv2 := [(3, .int (nI 0)), (0, .ref (g.1 + (53 + 2 * tz))), (1, .int sz), (2, .int nz)]) (by rfl) ?_
  refine v_L (L2 := (lzc L (54 + 2 * tz) 0)) (by rfl) ?_
  refine dloop (P := fun i => V g F cX6_become RX6 4 0 12 [(3, .int (nI i)), (0, .ref (g.1 + (53 + 2 * tz))), (1, .int sz), (2, .int nz)] [] (wr (wr I (53 + 2 * tz) 0 sz) (53 + 2 * tz) 1 nz) (lzc L (54 + 2 * tz) i) (RT na nt ni) (NT nl) (NB + m) 0 0) 60 ?_ ?_ 0 (Nat.zero_le _)
  · refine v_iload_n dX6_become_12 rfl 0 rfl ?_
    refine v_bipush (v := 60) dX6_become_13 (by decide) ?_
    refine v_icmp_geN (a := 60) (b := 60) (tgt := 31) dX6_become_15 (by decide) rfl rfl (by omega) (by omega) (fun h1 => ?_) (fun h => by exfalso; omega)
    exact v_vret hr dX6_become_31 (⟨rfl, rfl, rfl, rfl, rfl, rfl⟩)
  · intro i hi ih
    refine v_iload_n dX6_become_12 rfl 0 rfl ?_
    refine v_bipush (v := 60) dX6_become_13 (by decide) ?_
    refine v_icmp_geN (a := i) (b := 60) (tgt := 31) dX6_become_15 (by decide) rfl rfl (by omega) (by omega) (fun h => by exfalso; omega) (fun h2 => ?_)
    refine v_aload_n dX6_become_18 rfl 1 rfl ?_
    refine v_get (v := .ref (g.1 + (54 + 2 * tz))) fa_X6_13 dX6_become_19 (kd_tp (by omega)) (by decide) (lt_tp (by omega) m) (by show some (va_rf ((RT _ _ _ (53 + 2 * tz) 2).map _)) = _; rw [RT_tp (by omega)]; rfl) ?_
    refine v_iload_n dX6_become_22 rfl 0 rfl ?_
    refine v_lconst (v := 0) dX6_become_23 rfl ?_
    refine v_lastore (len := 60) (j := i) dX6_become_24 (kd_ti (by omega)) (lt_ti (by omega) m) (NT_ti (by omega) nl) (by decide) rfl (by omega) ?_
    refine v_inc (v := nI (i + 1)) (lv2 := [(3, .int (nI (i + 1))), (0, .ref (g.1 + (53 + 2 * tz))), (1, .int sz), (2, .int nz)]) dX6_become_25 0 rfl (nx_inc rfl) (by decide) rfl ?_
    refine v_goto (tgt := 12) dX6_become_28 (by decide) ?_
    refine v_L (L2 := (lzc L (54 + 2 * tz) (i + 1))) (by rfl) ?_
    exact ih
set_option maxRecDepth 100000 in
set_option maxHeartbeats 400000 in
theorem c_X6_cut {g : Gl} {I : Ty} {L : TL} {na nt ni m : Nat} {nl : Nat → Nat} (zz : Int64) (tz : Nat) (htz : tz < 6) : Ct g yX6_cut cX6_cut 3 (some .long) 0 0 0 [.ref (g.1 + (53 + 2 * tz)), .long zz] I L (RT na nt ni) (NT nl) (NB + m) (Ps (some (.long (cutF (I (53 + 2 * tz) 0) zz))) I L (RT na nt ni) (NT nl) (NB + m)) := by
  refine ct_of (by decide +kernel) (Nat.le_of_ble_eq_true rfl) (fun F hnm hr => ?_)
  clear hnm
  show V g F cX6_cut RX6 3 0 0 [(0, .ref (g.1 + (53 + 2 * tz))), (1, .long zz)] [] I L (RT na nt ni) (NT nl) (NB + m) 0 0
  refine v_aload_n dX6_cut_0 rfl 0 rfl ?_
  refine v_get (v := .int (I (53 + 2 * tz) 0)) fa_X6_7 dX6_cut_1 (kd_tp (by omega)) (by decide) (lt_tp (by omega) m) rfl ?_
  by_cases k1_0 : I (53 + 2 * tz) 0 = 0
  · refine v_is k1_0 ?_
    refine v_tabIn (off := 32) (tgt := 36) dX6_cut_4 (by decide) (by decide) (by decide) (by decide) ?_
    refine v_lload_n dX6_cut_36 rfl 1 rfl ?_
    refine v_l2i dX6_cut_37 ?_
    refine v_i2b dX6_cut_38 ?_
    refine v_i2l dX6_cut_39 ?_
    exact v_lret hr dX6_cut_40 (psl (by unfold cutF; rw [ifc_t k1_0]) rfl)
  by_cases k1_1 : I (53 + 2 * tz) 0 = 1
  · refine v_is k1_1 ?_
    refine v_tabIn (off := 37) (tgt := 41) dX6_cut_4 (by decide) (by decide) (by decide) (by decide) ?_
    refine v_lload_n dX6_cut_41 rfl 1 rfl ?_
    refine v_l2i dX6_cut_42 ?_
    refine v_i2s dX6_cut_43 ?_
    refine v_i2l dX6_cut_44 ?_
    exact v_lret hr dX6_cut_45 (psl (by unfold cutF; rw [ifc_f k1_0, ifc_t k1_1]) rfl)
  by_cases k1_2 : I (53 + 2 * tz) 0 = 2
  · refine v_is k1_2 ?_
    refine v_tabIn (off := 42) (tgt := 46) dX6_cut_4 (by decide) (by decide) (by decide) (by decide) ?_
    refine v_lload_n dX6_cut_46 rfl 1 rfl ?_
    refine v_l2i dX6_cut_47 ?_
    refine v_i2l dX6_cut_48 ?_
    exact v_lret hr dX6_cut_49 (psl (by unfold cutF; rw [ifc_f k1_0, ifc_f k1_1, ifc_t k1_2]) rfl)
  by_cases k1_3 : I (53 + 2 * tz) 0 = 3
  · refine v_is k1_3 ?_
    refine v_tabIn (off := 46) (tgt := 50) dX6_cut_4 (by decide) (by decide) (by decide) (by decide) ?_
    refine v_lload_n dX6_cut_50 rfl 1 rfl ?_
    exact v_lret hr dX6_cut_51 (psl (by unfold cutF; rw [ifc_f k1_0, ifc_f k1_1, ifc_f k1_2, ifc_t k1_3]) rfl)
  have t2 : (I (53 + 2 * tz) 0).toInt < 0 ∨ 3 < (I (53 + 2 * tz) 0).toInt := by
    rcases sw_out (I (53 + 2 * tz) 0) (0) (3) with h | h | ⟨ha, hb⟩
    · exact Or.inl h
    · exact Or.inr h
    · exfalso
      have hz : ∀ z : Int, 0 ≤ z → z ≤ 3 → z = 0 ∨ z = 1 ∨ z = 2 ∨ z = 3 := by omega
      rcases hz _ ha hb with e | e | e | e
      · exact absurd (sw_eq (k := 0) e (by decide)) k1_0
      · exact absurd (sw_eq (k := 1) e (by decide)) k1_1
      · exact absurd (sw_eq (k := 2) e (by decide)) k1_2
      · exact absurd (sw_eq (k := 3) e (by decide)) k1_3
  refine v_tabOut (tgt := 52) dX6_cut_4 t2 (by decide) ?_
  refine v_lload_n dX6_cut_52 rfl 1 rfl ?_
  refine v_lconst (v := 0) dX6_cut_53 rfl ?_
  refine v_lcmp dX6_cut_54 ?_
  refine v_if_eq (tgt := 62) dX6_cut_55 (by decide) (fun h4 => ?_) (fun h4 => ?_)
  · refine v_lconst (v := 0) dX6_cut_62 rfl ?_
    exact v_lret hr dX6_cut_63 (psl (by unfold cutF; rw [ifc_f k1_0, ifc_f k1_1, ifc_f k1_2, ifc_f k1_3, ifc_t ((lcmp0 _ _).mp h4)]) rfl)
  · refine v_lconst (v := 1) dX6_cut_58 rfl ?_
    refine v_goto (tgt := 63) dX6_cut_59 (by decide) ?_
    exact v_lret hr dX6_cut_63 (psl (by unfold cutF; rw [ifc_f k1_0, ifc_f k1_1, ifc_f k1_2, ifc_f k1_3, ifc_f (fun q => h4 ((lcmp0 _ _).mpr q))]) rfl)
theorem holds_1 {iz nz : Int32} {ln : Nat} (hl : ln ≤ 60) (h1 : ¬ nz < 0) (h2 : ¬ iz < 0) (h3 : ¬ nI ln < nz) (h4 : ¬ nI ln - nz < iz) : shC ln iz nz := by
  refine ⟨h2, h1, ?_⟩
  obtain ⟨n, hn, rfl⟩ := nI_of h1
  obtain ⟨i, hi, rfl⟩ := nI_of h2
  have h5 : n ≤ ln := Nat.not_lt.mp (fun q => h3 ((nI_ltI (by omega) hn).mpr q))
  rw [pk_sub h5] at h4
  have h6 : i ≤ ln - n := Nat.not_lt.mp (fun q => h4 ((nI_ltI (by omega) hi).mpr q))
  rw [tn_nI hn, tn_nI hi]; omega
theorem holds_3 {iz nz : Int32} {ln : Nat} (hl : ln ≤ 60) (h3 : nI ln < nz) : ¬ shC ln iz nz := fun ⟨h2, h1, h⟩ => by
  obtain ⟨n, hn, rfl⟩ := nI_of h1
  have h5 := (nI_ltI (by omega) hn).mp h3
  rw [tn_nI hn] at h; omega
theorem holds_4 {iz nz : Int32} {ln : Nat} (hl : ln ≤ 60) (h3 : ¬ nI ln < nz) (h4 : nI ln - nz < iz) : ¬ shC ln iz nz := fun ⟨h2, h1, h⟩ => by
  obtain ⟨n, hn, rfl⟩ := nI_of h1
  obtain ⟨i, hi, rfl⟩ := nI_of h2
  have h5 : n ≤ ln := Nat.not_lt.mp (fun q => h3 ((nI_ltI (by omega) hn).mpr q))
  rw [pk_sub h5] at h4
  have h6 := (nI_ltI (by omega) hi).mp h4
  rw [tn_nI hn, tn_nI hi] at h; omega
set_option maxRecDepth 100000 in
set_option maxHeartbeats 400000 in
theorem c_X6_holds {g : Gl} {I : Ty} {L : TL} {na nt ni m : Nat} {nl : Nat → Nat} (iz : Int32) (nz : Int32) (tz : Nat) (htz : tz < 6) (ln : Nat) (hll : ln ≤ 60) (hln : I (53 + 2 * tz) 1 = nI ln) : Ct g yX6_holds cX6_holds 3 (some .boolean) 0 0 0 [.ref (g.1 + (53 + 2 * tz)), .int iz, .int nz] I L (RT na nt ni) (NT nl) (NB + m) (Ps (some (.int (bq (shC ln iz nz)))) (I) L (RT na nt ni) (NT nl) (NB + m)) := by
  refine ct_of (by decide +kernel) (Nat.le_of_ble_eq_true rfl) (fun F hnm hr => ?_)
  clear hnm
  show V g F cX6_holds RX6 3 0 0 [(0, .ref (g.1 + (53 + 2 * tz))), (1, .int iz), (2, .int nz)] [] I L (RT na nt ni) (NT nl) (NB + m) 0 0
  refine v_iload_n dX6_holds_0 rfl 2 rfl ?_
  refine v_if_lt (tgt := 30) dX6_holds_1 (by decide) (fun h2 => ?_) (fun h2 => ?_)
  · refine v_iconst (v := 0) dX6_holds_30 (by decide) ?_
    exact v_zret hr dX6_holds_31 (by first | rfl | exact nbq) (psi (bq_f (fun q => q.2.1 h2)).symm rfl)
  · refine v_iload_n dX6_holds_4 rfl 1 rfl ?_
    refine v_if_lt (tgt := 30) dX6_holds_5 (by decide) (fun h4 => ?_) (fun h4 => ?_)
    · refine v_iconst (v := 0) dX6_holds_30 (by decide) ?_
      exact v_zret hr dX6_holds_31 (by first | rfl | exact nbq) (psi (bq_f (fun q => q.1 h4)).symm rfl)
    · refine v_iload_n dX6_holds_8 rfl 2 rfl ?_
      refine v_aload_n dX6_holds_9 rfl 0 rfl ?_
      refine v_get (v := .int (I (53 + 2 * tz) 1)) fa_X6_17 dX6_holds_10 (kd_tp (by omega)) (by decide) (lt_tp (by omega) m) rfl ?_
      refine v_is hln ?_
      refine v_icmp_gt (tgt := 30) dX6_holds_13 (by decide) (fun h6 => ?_) (fun h6 => ?_)
      · refine v_iconst (v := 0) dX6_holds_30 (by decide) ?_
        exact v_zret hr dX6_holds_31 (by first | rfl | exact nbq) (psi (bq_f (holds_3 hll h6)).symm rfl)
      · refine v_iload_n dX6_holds_16 rfl 1 rfl ?_
        refine v_aload_n dX6_holds_17 rfl 0 rfl ?_
        refine v_get (v := .int (I (53 + 2 * tz) 1)) fa_X6_17 dX6_holds_18 (kd_tp (by omega)) (by decide) (lt_tp (by omega) m) rfl ?_
        refine v_is hln ?_
        refine v_iload_n dX6_holds_21 rfl 2 rfl ?_
        refine v_isub dX6_holds_22 ?_
        refine v_icmp_gt (tgt := 30) dX6_holds_23 (by decide) (fun h8 => ?_) (fun h8 => ?_)
        · refine v_iconst (v := 0) dX6_holds_30 (by decide) ?_
          exact v_zret hr dX6_holds_31 (by first | rfl | exact nbq) (psi (bq_f (holds_4 hll h6 h8)).symm rfl)
        · refine v_iconst (v := 1) dX6_holds_26 (by decide) ?_
          refine v_goto (tgt := 31) dX6_holds_27 (by decide) ?_
          exact v_zret hr dX6_holds_31 (by first | rfl | exact nbq) (psi (bq_t (holds_1 hll h2 h4 h6 h8)).symm rfl)
