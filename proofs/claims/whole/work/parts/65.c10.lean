set_option maxRecDepth 100000 in
set_option maxHeartbeats 400000 in
theorem c_hcopy_8_1 {g : Gl} {I : Ty} {L : TL} {na nt ni m : Nat} {nl : Nat → Nat}  (hmo9 : I 9 1 = nI 5) (hmo11 : I 11 1 = nI 8) (hmo13 : I 13 1 = nI 8) : Ct g yX1_copyFrom cX1_copyFrom 2 none 2 0 0 [.ref (g.1 + 8), .ref (g.1 + 1)] I L (RT na nt ni) (NT nl) (NB + m) (Ps none (cpR (cpR (cpR I 9 2) 11 4) 13 6) L (RT na nt ni) (NT nl) (NB + m)) := by
  refine ct_of (by decide +kernel) (Nat.le_of_ble_eq_true rfl) (fun F hnm hr => ?_)
  clear hnm
  show V g F cX1_copyFrom RX1 2 2 0 [(0, .ref (g.1 + 8)), (1, .ref (g.1 + 1))] [] I L (RT na nt ni) (NT nl) (NB + m) 0 0
  refine v_aload_n dX1_copyFrom_0 rfl 0 rfl ?_
  refine v_get (v := .ref (g.1 + 9)) fa_X1_12 dX1_copyFrom_1 rfl (by decide) (ltn rfl) rfl ?_
  refine v_aload_n dX1_copyFrom_4 rfl 1 rfl ?_
  refine v_get (v := .ref (g.1 + 2)) fa_X1_12 dX1_copyFrom_5 rfl (by decide) (ltn rfl) rfl ?_
  refine v_callVv (As := [.ref (g.1 + 2)]) (rest := []) lk_X1_24 (c_rcopy_9_2 (I := I) hmo9) dX1_copyFrom_8 rfl (ltn rfl) rfl rfl (Nat.le_of_ble_eq_true rfl) (by decide) ?_
  refine v_aload_n dX1_copyFrom_11 rfl 0 rfl ?_
  refine v_get (v := .ref (g.1 + 11)) fa_X1_18 dX1_copyFrom_12 rfl (by decide) (ltn rfl) rfl ?_
  refine v_aload_n dX1_copyFrom_15 rfl 1 rfl ?_
  refine v_get (v := .ref (g.1 + 4)) fa_X1_18 dX1_copyFrom_16 rfl (by decide) (ltn rfl) rfl ?_
  refine v_callVv (As := [.ref (g.1 + 4)]) (rest := []) lk_X1_24 (c_rcopy_11_4 (I := (cpR I 9 2)) hmo11) dX1_copyFrom_19 rfl (ltn rfl) rfl rfl (Nat.le_of_ble_eq_true rfl) (by decide) ?_
  refine v_aload_n dX1_copyFrom_22 rfl 0 rfl ?_
  refine v_get (v := .ref (g.1 + 13)) fa_X1_21 dX1_copyFrom_23 rfl (by decide) (ltn rfl) rfl ?_
  refine v_aload_n dX1_copyFrom_26 rfl 1 rfl ?_
  refine v_get (v := .ref (g.1 + 6)) fa_X1_21 dX1_copyFrom_27 rfl (by decide) (ltn rfl) rfl ?_
  refine v_callVv (As := [.ref (g.1 + 6)]) (rest := []) lk_X1_24 (c_rcopy_13_6 (I := (cpR (cpR I 9 2) 11 4)) hmo13) dX1_copyFrom_30 rfl (ltn rfl) rfl rfl (Nat.le_of_ble_eq_true rfl) (by decide) ?_
  exact v_vret hr dX1_copyFrom_33 (psv (by first | rfl | (simp only [bq, ifc_T, ifc_F, inr_m1, and_true, true_and, and_false, false_and, or_true, true_or, or_false, false_or, not_true_eq_false, not_false_eq_true, and_self, or_self]; done) | (simp [bq, ifc_T, ifc_F, inr_m1]; done) | ((try simp only [bq]); repeat (first | rfl | (refine eq_t ?_ ?_; focus (first | omega | assumption | (simp [inr_m1]; done) | (simp [inr_m1]; omega) | (clear hr; (try clear hkn); simp_all; done))) | (refine eq_f ?_ ?_; focus (first | omega | assumption | (simp [inr_m1]; done) | (simp [inr_m1]; omega) | (clear hr; (try clear hkn); simp_all; done))) | (exfalso; clear hr; (try clear hkn); simp_all; done)))))
set_option maxRecDepth 100000 in
set_option maxHeartbeats 400000 in
theorem c_hcopy_1_8 {g : Gl} {I : Ty} {L : TL} {na nt ni m : Nat} {nl : Nat → Nat}  (hmo2 : I 2 1 = nI 5) (hmo4 : I 4 1 = nI 8) (hmo6 : I 6 1 = nI 8) : Ct g yX1_copyFrom cX1_copyFrom 2 none 2 0 0 [.ref (g.1 + 1), .ref (g.1 + 8)] I L (RT na nt ni) (NT nl) (NB + m) (Ps none (cpR (cpR (cpR I 2 9) 4 11) 6 13) L (RT na nt ni) (NT nl) (NB + m)) := by
  refine ct_of (by decide +kernel) (Nat.le_of_ble_eq_true rfl) (fun F hnm hr => ?_)
  clear hnm
  show V g F cX1_copyFrom RX1 2 2 0 [(0, .ref (g.1 + 1)), (1, .ref (g.1 + 8))] [] I L (RT na nt ni) (NT nl) (NB + m) 0 0
  refine v_aload_n dX1_copyFrom_0 rfl 0 rfl ?_
  refine v_get (v := .ref (g.1 + 2)) fa_X1_12 dX1_copyFrom_1 rfl (by decide) (ltn rfl) rfl ?_
  refine v_aload_n dX1_copyFrom_4 rfl 1 rfl ?_
  refine v_get (v := .ref (g.1 + 9)) fa_X1_12 dX1_copyFrom_5 rfl (by decide) (ltn rfl) rfl ?_
  refine v_callVv (As := [.ref (g.1 + 9)]) (rest := []) lk_X1_24 (c_rcopy_2_9 (I := I) hmo2) dX1_copyFrom_8 rfl (ltn rfl) rfl rfl (Nat.le_of_ble_eq_true rfl) (by decide) ?_
  refine v_aload_n dX1_copyFrom_11 rfl 0 rfl ?_
  refine v_get (v := .ref (g.1 + 4)) fa_X1_18 dX1_copyFrom_12 rfl (by decide) (ltn rfl) rfl ?_
  refine v_aload_n dX1_copyFrom_15 rfl 1 rfl ?_
  refine v_get (v := .ref (g.1 + 11)) fa_X1_18 dX1_copyFrom_16 rfl (by decide) (ltn rfl) rfl ?_
  refine v_callVv (As := [.ref (g.1 + 11)]) (rest := []) lk_X1_24 (c_rcopy_4_11 (I := (cpR I 2 9)) hmo4) dX1_copyFrom_19 rfl (ltn rfl) rfl rfl (Nat.le_of_ble_eq_true rfl) (by decide) ?_
  refine v_aload_n dX1_copyFrom_22 rfl 0 rfl ?_
  refine v_get (v := .ref (g.1 + 6)) fa_X1_21 dX1_copyFrom_23 rfl (by decide) (ltn rfl) rfl ?_
  refine v_aload_n dX1_copyFrom_26 rfl 1 rfl ?_
  refine v_get (v := .ref (g.1 + 13)) fa_X1_21 dX1_copyFrom_27 rfl (by decide) (ltn rfl) rfl ?_
  refine v_callVv (As := [.ref (g.1 + 13)]) (rest := []) lk_X1_24 (c_rcopy_6_13 (I := (cpR (cpR I 2 9) 4 11)) hmo6) dX1_copyFrom_30 rfl (ltn rfl) rfl rfl (Nat.le_of_ble_eq_true rfl) (by decide) ?_
  exact v_vret hr dX1_copyFrom_33 (psv (by first | rfl | (simp only [bq, ifc_T, ifc_F, inr_m1, and_true, true_and, and_false, false_and, or_true, true_or, or_false, false_or, not_true_eq_false, not_false_eq_true, and_self, or_self]; done) | (simp [bq, ifc_T, ifc_F, inr_m1]; done) | ((try simp only [bq]); repeat (first | rfl | (refine eq_t ?_ ?_; focus (first | omega | assumption | (simp [inr_m1]; done) | (simp [inr_m1]; omega) | (clear hr; (try clear hkn); simp_all; done))) | (refine eq_f ?_ ?_; focus (first | omega | assumption | (simp [inr_m1]; done) | (simp [inr_m1]; omega) | (clear hr; (try clear hkn); simp_all; done))) | (exfalso; clear hr; (try clear hkn); simp_all; done)))))
noncomputable def gng (kd : Nat → Int32) (lk : Int32) : Nat → Int32
  | 0 => lk
  | o + 1 => ifc (kd o = 4 ∧ hb lk o) 63 (gng kd lk o)
theorem gng_t {kd : Nat → Int32} {lk : Int32} {o : Nat} (h : kd o = 4 ∧ hb lk o) : gng kd lk (o + 1) = 63 := ifc_t h
theorem gng_f {kd : Nat → Int32} {lk : Int32} {o : Nat} (h : ¬ (kd o = 4 ∧ hb lk o)) : gng kd lk (o + 1) = gng kd lk o := ifc_f h
noncomputable def tryI (I : Ty) (lk : Int32) (pp : Nat) : Ty := wr (cpL I 33 23) 33 11 (gng (I 25) lk pp)
set_option maxRecDepth 100000 in
set_option maxHeartbeats 400000 in
theorem c_X2_tryFor {g : Gl} {I : Ty} {L : TL} {na nt ni m : Nat} {nl : Nat → Nat} (lk : Int32) (pp : Nat) (hpp : pp ≤ 6) (hpe : I 23 1 = nI pp) : Ct g yX2_tryFor cX2_tryFor 4 none 2 0 0 [.ref (g.1 + 33), .ref (g.1 + 23), .int lk] I L (RT na nt ni) (NT nl) (NB + m) (Ps none (tryI I lk pp) L (RT na na ni) (NT nl) (NB + m)) := by
  refine ct_of (by decide +kernel) (Nat.le_of_ble_eq_true rfl) (fun F hnm hr => ?_)
  clear hnm
  show V g F cX2_tryFor RX2 4 2 0 [(0, .ref (g.1 + 33)), (1, .ref (g.1 + 23)), (2, .int lk)] [] I L (RT na nt ni) (NT nl) (NB + m) 0 0
  refine v_aload_n dX2_tryFor_0 rfl 0 rfl ?_
  refine v_aload_n dX2_tryFor_1 rfl 1 rfl ?_
  refine v_callVv (As := [.ref (g.1 + 23)]) (rest := []) lk_X2_49 (c_copyFrom_33_23 (I := I)) dX2_tryFor_2 rfl (ltn rfl) rfl rfl (Nat.le_of_ble_eq_true rfl) (by decide) ?_
  refine v_aload_n dX2_tryFor_5 rfl 0 rfl ?_
  refine v_iload_n dX2_tryFor_6 rfl 2 rfl ?_
  refine v_puti pa_X2_36 dX2_tryFor_7 rfl (by decide) (ltn rfl) (by show 11 < 13; decide) rfl ?_
  refine v_iconst (v := 0) dX2_tryFor_10 (by decide) ?_
  refine v_istore_n (lv2 := [(3, .int 0), (0, .ref (g.1 + 33)), (1, .ref (g.1 + 23)), (2, .int lk)]) dX2_tryFor_11 rfl (by decide) rfl ?_
  refine v_lv (lv2 := [(3, .int (nI 0)), (0, .ref (g.1 + 33)), (1, .ref (g.1 + 23)), (2, .int lk)]) (by rfl) ?_
  refine v_I (I2 := (wr (cpL I 33 23) 33 11 (gng (I 25) lk 0))) (by rfl) ?_
  refine dloop (P := fun i => V g F cX2_tryFor RX2 4 2 12 [(3, .int (nI i)), (0, .ref (g.1 + 33)), (1, .ref (g.1 + 23)), (2, .int lk)] [] (wr (cpL I 33 23) 33 11 (gng (I 25) lk i)) L (RT na na ni) (NT nl) (NB + m) 0 0) pp ?_ ?_ 0 (Nat.zero_le _)
  · refine v_iload_n dX2_tryFor_12 rfl 0 rfl ?_
    refine v_aload_n dX2_tryFor_13 rfl 1 rfl ?_
    refine v_get (v := .int ((wr (cpL I 33 23) 33 11 (gng (I 25) lk pp)) 33 1)) fa_X2_53 dX2_tryFor_14 rfl (by decide) (ltn rfl) rfl ?_
    refine v_is (y := nI pp) (by exact hpe) ?_
    refine v_icmp_geN (a := pp) (b := pp) (tgt := 50) dX2_tryFor_17 (by decide) rfl rfl (by omega) (by omega) (fun h1 => ?_) (fun h => by exfalso; omega)
    exact v_vret hr dX2_tryFor_50 (⟨rfl, rfl, rfl, rfl, rfl, rfl⟩)
  · intro i hi ih
    refine v_iload_n dX2_tryFor_12 rfl 0 rfl ?_
    refine v_aload_n dX2_tryFor_13 rfl 1 rfl ?_
    refine v_get (v := .int ((wr (cpL I 33 23) 33 11 (gng (I 25) lk i)) 33 1)) fa_X2_53 dX2_tryFor_14 rfl (by decide) (ltn rfl) rfl ?_
    refine v_is (y := nI pp) (by exact hpe) ?_
    refine v_icmp_geN (a := i) (b := pp) (tgt := 50) dX2_tryFor_17 (by decide) rfl rfl (by omega) (by omega) (fun h => by exfalso; omega) (fun h2 => ?_)
    refine v_aload_n dX2_tryFor_20 rfl 1 rfl ?_
    refine v_get (v := .ref (g.1 + 35)) fa_X2_15 dX2_tryFor_21 rfl (by decide) (ltn rfl) rfl ?_
    refine v_iload_n dX2_tryFor_24 rfl 0 rfl ?_
    refine v_iaload (len := 6) (j := i) dX2_tryFor_25 rfl (ltn rfl) rfl (by decide) rfl (by omega) ?_
    refine v_is (y := I 25 i) (by rfl) ?_
    refine v_iconst (v := 4) dX2_tryFor_26 (by decide) ?_
    refine v_icmp_ne (tgt := 44) dX2_tryFor_27 (by decide) (fun h4 => ?_) (fun h4 => ?_)
    · refine v_inc (v := nI (i + 1)) (lv2 := [(3, .int (nI (i + 1))), (0, .ref (g.1 + 33)), (1, .ref (g.1 + 23)), (2, .int lk)]) dX2_tryFor_44 0 rfl (nx_inc rfl) (by decide) rfl ?_
      refine v_goto (tgt := 12) dX2_tryFor_47 (by decide) ?_
      refine v_I (I2 := (wr (cpL I 33 23) 33 11 (gng (I 25) lk (i + 1)))) (by rw [gng_f (fun q => h4 q.1)]) ?_
      exact ih
    · refine v_iload_n dX2_tryFor_30 rfl 3 rfl ?_
      refine v_iload_n dX2_tryFor_31 rfl 0 rfl ?_
      refine v_ishr dX2_tryFor_32 ?_
      refine v_iconst (v := 1) dX2_tryFor_33 (by decide) ?_
      refine v_iand dX2_tryFor_34 ?_
      refine v_if_eq (tgt := 44) dX2_tryFor_35 (by decide) (fun h6 => ?_) (fun h6 => ?_)
      · refine v_inc (v := nI (i + 1)) (lv2 := [(3, .int (nI (i + 1))), (0, .ref (g.1 + 33)), (1, .ref (g.1 + 23)), (2, .int lk)]) dX2_tryFor_44 0 rfl (nx_inc rfl) (by decide) rfl ?_
        refine v_goto (tgt := 12) dX2_tryFor_47 (by decide) ?_
        refine v_I (I2 := (wr (cpL I 33 23) 33 11 (gng (I 25) lk (i + 1)))) (by rw [gng_f (fun q => (hb_z (by omega)).mp h6 q.2)]) ?_
        exact ih
      · refine v_aload_n dX2_tryFor_38 rfl 1 rfl ?_
        refine v_bipush (v := 63) dX2_tryFor_39 (by decide) ?_
        refine v_puti pa_X2_36 dX2_tryFor_41 rfl (by decide) (ltn rfl) (by show 11 < 13; decide) rfl ?_
        refine v_inc (v := nI (i + 1)) (lv2 := [(3, .int (nI (i + 1))), (0, .ref (g.1 + 33)), (1, .ref (g.1 + 23)), (2, .int lk)]) dX2_tryFor_44 0 rfl (nx_inc rfl) (by decide) rfl ?_
        refine v_goto (tgt := 12) dX2_tryFor_47 (by decide) ?_
        refine v_I (I2 := (wr (cpL I 33 23) 33 11 (gng (I 25) lk (i + 1)))) (by rw [gng_t ⟨h4, Classical.byContradiction (fun q => h6 ((hb_z (by omega)).mpr q))⟩]; exact wr_wr2 _ _ _ _ _) ?_
        exact ih
def rzr (a : Nat) (I : Ty) (pp : Nat) : Nat → Ty
  | 0 => I
  | i + 1 => wr (rzr a I pp i) a (4 * pp + i) 0
def cTrav (I : Ty) (pp : Nat) (k v c : Int32) : Ty := wr (rzr 31 (wr (wr (wr (wr (wr (wr I 25 pp k) 26 pp v) 27 pp c) 28 pp (-1)) 29 pp 0) 30 pp 0) pp 4) 23 1 (nI (pp + 1))
set_option maxRecDepth 100000 in
set_option maxHeartbeats 400000 in
theorem c_X2_welcomeNew {g : Gl} {I : Ty} {L : TL} {na nt ni m : Nat} {nl : Nat → Nat} (kz : Int32) (vz : Int32) (cz : Int32) (pp : Nat) (hpp : pp < 6) (hpe : I 23 1 = nI pp) : Ct g yX2_welcomeNew cX2_welcomeNew 6 (some .int) 0 0 0 [.ref (g.1 + 23), .int kz, .int vz, .int cz] I L (RT na nt ni) (NT nl) (NB + m) (Ps (some (.int (nI pp))) (cTrav I pp kz vz cz) L (RT na nt ni) (NT nl) (NB + m)) := by
  refine ct_of (by decide +kernel) (Nat.le_of_ble_eq_true rfl) (fun F hnm hr => ?_)
  clear hnm
  show V g F cX2_welcomeNew RX2 6 0 0 [(0, .ref (g.1 + 23)), (1, .int kz), (2, .int vz), (3, .int cz)] [] I L (RT na nt ni) (NT nl) (NB + m) 0 0
  refine v_aload_n dX2_welcomeNew_0 rfl 0 rfl ?_
  refine v_get (v := .int (I 23 1)) fa_X2_53 dX2_welcomeNew_1 rfl (by decide) (ltn rfl) rfl ?_
  refine v_is hpe ?_
  refine v_istore (lv2 := [(4, .int (nI pp)), (0, .ref (g.1 + 23)), (1, .int kz), (2, .int vz), (3, .int cz)]) dX2_welcomeNew_4 (by decide) rfl ?_
  refine v_aload_n dX2_welcomeNew_6 rfl 1 rfl ?_
  refine v_get (v := .ref (g.1 + 25)) fa_X2_15 dX2_welcomeNew_7 rfl (by decide) (ltn rfl) rfl ?_
  refine v_iload dX2_welcomeNew_10 0 rfl ?_
  refine v_iload_n dX2_welcomeNew_12 rfl 2 rfl ?_
  refine v_iastore (len := 6) (j := pp) dX2_welcomeNew_13 rfl (ltn rfl) rfl (by decide) rfl (by omega) ?_
  refine v_aload_n dX2_welcomeNew_14 rfl 1 rfl ?_
  refine v_get (v := .ref (g.1 + 26)) fa_X2_18 dX2_welcomeNew_15 rfl (by decide) (ltn rfl) rfl ?_
  refine v_iload dX2_welcomeNew_18 0 rfl ?_
  refine v_iload_n dX2_welcomeNew_20 rfl 3 rfl ?_
  refine v_iastore (len := 6) (j := pp) dX2_welcomeNew_21 rfl (ltn rfl) rfl (by decide) rfl (by omega) ?_
  refine v_aload_n dX2_welcomeNew_22 rfl 1 rfl ?_
  refine v_get (v := .ref (g.1 + 27)) fa_X2_21 dX2_welcomeNew_23 rfl (by decide) (ltn rfl) rfl ?_
  refine v_iload dX2_welcomeNew_26 0 rfl ?_
  refine v_iload_n dX2_welcomeNew_28 rfl 4 rfl ?_
  refine v_iastore (len := 6) (j := pp) dX2_welcomeNew_29 rfl (ltn rfl) rfl (by decide) rfl (by omega) ?_
  refine v_aload_n dX2_welcomeNew_30 rfl 1 rfl ?_
  refine v_get (v := .ref (g.1 + 28)) fa_X2_24 dX2_welcomeNew_31 rfl (by decide) (ltn rfl) rfl ?_
  refine v_iload dX2_welcomeNew_34 0 rfl ?_
  refine v_iconst (v := (-1)) dX2_welcomeNew_36 (by decide) ?_
  refine v_iastore (len := 6) (j := pp) dX2_welcomeNew_37 rfl (ltn rfl) rfl (by decide) rfl (by omega) ?_
  refine v_aload_n dX2_welcomeNew_38 rfl 1 rfl ?_
  refine v_get (v := .ref (g.1 + 29)) fa_X2_27 dX2_welcomeNew_39 rfl (by decide) (ltn rfl) rfl ?_
  refine v_iload dX2_welcomeNew_42 0 rfl ?_
  refine v_iconst (v := 0) dX2_welcomeNew_44 (by decide) ?_
  refine v_iastore (len := 6) (j := pp) dX2_welcomeNew_45 rfl (ltn rfl) rfl (by decide) rfl (by omega) ?_
  refine v_aload_n dX2_welcomeNew_46 rfl 1 rfl ?_
  refine v_get (v := .ref (g.1 + 30)) fa_X2_30 dX2_welcomeNew_47 rfl (by decide) (ltn rfl) rfl ?_
  refine v_iload dX2_welcomeNew_50 0 rfl ?_
  refine v_iconst (v := 0) dX2_welcomeNew_52 (by decide) ?_
  refine v_iastore (len := 6) (j := pp) dX2_welcomeNew_53 rfl (ltn rfl) rfl (by decide) rfl (by omega) ?_
  refine v_iconst (v := 0) dX2_welcomeNew_54 (by decide) ?_
  refine v_istore (lv2 := [(5, .int 0), (4, .int (nI pp)), (0, .ref (g.1 + 23)), (1, .int kz), (2, .int vz), (3, .int cz)]) dX2_welcomeNew_55 (by decide) rfl ?_
  refine v_lv (lv2 := [(5, .int (nI 0)), (4, .int (nI pp)), (0, .ref (g.1 + 23)), (1, .int kz), (2, .int vz), (3, .int cz)]) (by rfl) ?_
  refine v_I (I2 := (rzr 31 (wr (wr (wr (wr (wr (wr I 25 pp kz) 26 pp vz) 27 pp cz) 28 pp (-1)) 29 pp 0) 30 pp 0) pp 0)) (by rfl) ?_
  refine dloop (P := fun i => V g F cX2_welcomeNew RX2 6 0 57 [(5, .int (nI i)), (4, .int (nI pp)), (0, .ref (g.1 + 23)), (1, .int kz), (2, .int vz), (3, .int cz)] [] (rzr 31 (wr (wr (wr (wr (wr (wr I 25 pp kz) 26 pp vz) 27 pp cz) 28 pp (-1)) 29 pp 0) 30 pp 0) pp i) L (RT na nt ni) (NT nl) (NB + m) 0 0) 4 ?_ ?_ 0 (Nat.zero_le _)
  · refine v_iload dX2_welcomeNew_57 0 rfl ?_
    refine v_iconst (v := 4) dX2_welcomeNew_59 (by decide) ?_
    refine v_icmp_geN (a := 4) (b := 4) (tgt := 82) dX2_welcomeNew_60 (by decide) rfl rfl (by omega) (by omega) (fun h1 => ?_) (fun h => by exfalso; omega)
    refine v_aload_n dX2_welcomeNew_82 rfl 2 rfl ?_
    refine v_iload dX2_welcomeNew_83 1 rfl ?_
    refine v_iconst (v := 1) dX2_welcomeNew_85 (by decide) ?_
    refine v_iadd dX2_welcomeNew_86 ?_
    refine v_is (nx_add rfl rfl) ?_
    refine v_puti pa_X2_53 dX2_welcomeNew_87 rfl (by decide) (ltn rfl) (by show 1 < 13; decide) rfl ?_
    refine v_iload dX2_welcomeNew_90 1 rfl ?_
    exact v_iret hr dX2_welcomeNew_92 (⟨rfl, rfl, rfl, rfl, rfl, rfl⟩)
  · intro i hi ih
    refine v_iload dX2_welcomeNew_57 0 rfl ?_
    refine v_iconst (v := 4) dX2_welcomeNew_59 (by decide) ?_
    refine v_icmp_geN (a := i) (b := 4) (tgt := 82) dX2_welcomeNew_60 (by decide) rfl rfl (by omega) (by omega) (fun h => by exfalso; omega) (fun h2 => ?_)
    refine v_aload_n dX2_welcomeNew_63 rfl 2 rfl ?_
    refine v_get (v := .ref (g.1 + 31)) fa_X2_33 dX2_welcomeNew_64 rfl (by decide) (ltn rfl) rfl ?_
    refine v_iconst (v := 4) dX2_welcomeNew_67 (by decide) ?_
    refine v_iload dX2_welcomeNew_68 1 rfl ?_
    refine v_imul dX2_welcomeNew_70 ?_
    refine v_is (nx_mul rfl rfl) ?_
    refine v_iload dX2_welcomeNew_71 0 rfl ?_
    refine v_iadd dX2_welcomeNew_73 ?_
    refine v_is (nx_add rfl rfl) ?_
    refine v_iconst (v := 0) dX2_welcomeNew_74 (by decide) ?_
    refine v_iastore (len := 24) (j := ((4 * pp) + i)) dX2_welcomeNew_75 rfl (ltn rfl) rfl (by decide) rfl (by omega) ?_
    refine v_inc (v := nI (i + 1)) (lv2 := [(5, .int (nI (i + 1))), (4, .int (nI pp)), (0, .ref (g.1 + 23)), (1, .int kz), (2, .int vz), (3, .int cz)]) dX2_welcomeNew_76 0 rfl (nx_inc rfl) (by decide) rfl ?_
    refine v_goto (tgt := 57) dX2_welcomeNew_79 (by decide) ?_
    refine v_I (I2 := (rzr 31 (wr (wr (wr (wr (wr (wr I 25 pp kz) 26 pp vz) 27 pp cz) 28 pp (-1)) 29 pp 0) 30 pp 0) pp (i + 1))) (by rfl) ?_
    exact ih
/-- the charts of a set of travellers -/
noncomputable def chF (ch : Nat → Int32) (st : Int32) : Nat → Int32
  | 0 => 0
  | o + 1 => ifc (hb st o) (chF ch st o ||| ch o) (chF ch st o)
set_option maxRecDepth 100000 in
set_option maxHeartbeats 400000 in
theorem c_isOther_23 {g : Gl} {I : Ty} {L : TL} {na nt ni m : Nat} {nl : Nat → Nat} (pz : Nat) (cz : Nat) (pp : Nat) (hpp : pp ≤ 6) (hpe : I 23 1 = nI pp) (hpz : pz < 6) (hcz : cz < 16) : Ct g yX2_isOtherAt cX2_isOtherAt 4 (some .boolean) 0 0 0 [.ref (g.1 + 23), .int (nI pz), .int (nI cz)] I L (RT na nt ni) (NT nl) (NB + m) (Ps (some (.int (bq (∃ o, o < pp ∧ o ≠ pz ∧ I 27 o = nI cz)))) (I) L (RT na nt ni) (NT nl) (NB + m)) := by
  refine ct_of (by decide +kernel) (Nat.le_of_ble_eq_true rfl) (fun F hnm hr => ?_)
  clear hnm
  show V g F cX2_isOtherAt RX2 4 0 0 [(0, .ref (g.1 + 23)), (1, .int (nI pz)), (2, .int (nI cz))] [] I L (RT na nt ni) (NT nl) (NB + m) 0 0
  refine v_iconst (v := 0) dX2_isOtherAt_0 (by decide) ?_
  refine v_istore_n (lv2 := [(3, .int 0), (0, .ref (g.1 + 23)), (1, .int (nI pz)), (2, .int (nI cz))]) dX2_isOtherAt_1 rfl (by decide) rfl ?_
  refine v_lv (lv2 := [(3, .int (nI 0)), (0, .ref (g.1 + 23)), (1, .int (nI pz)), (2, .int (nI cz))]) (by rfl) ?_
  refine dloop (P := fun i => (∀ o, o < i → o ≠ pz → ¬ I 27 o = nI cz) → V g F cX2_isOtherAt RX2 4 0 2 [(3, .int (nI i)), (0, .ref (g.1 + 23)), (1, .int (nI pz)), (2, .int (nI cz))] [] I L (RT na nt ni) (NT nl) (NB + m) 0 0) pp ?_ ?_ 0 (Nat.zero_le _) (fun o h => absurd h (Nat.not_lt_zero o))
  · intro hinv
    refine v_iload_n dX2_isOtherAt_2 rfl 0 rfl ?_
    refine v_aload_n dX2_isOtherAt_3 rfl 1 rfl ?_
    refine v_get (v := .int (I 23 1)) fa_X2_53 dX2_isOtherAt_4 rfl (by decide) (ltn rfl) rfl ?_
    refine v_is hpe ?_
    refine v_icmp_geN (a := pp) (b := pp) (tgt := 33) dX2_isOtherAt_7 (by decide) rfl rfl (by omega) (by omega) (fun h1 => ?_) (fun h => by exfalso; omega)
    refine v_iconst (v := 0) dX2_isOtherAt_33 (by decide) ?_
    exact v_zret hr dX2_isOtherAt_34 (by first | rfl | exact nbq) (psi (bq_f (fun ⟨o, h1, h2, h3⟩ => hinv o h1 h2 h3)).symm rfl)
  · intro i hi ih
    intro hinv
    refine v_iload_n dX2_isOtherAt_2 rfl 0 rfl ?_
    refine v_aload_n dX2_isOtherAt_3 rfl 1 rfl ?_
    refine v_get (v := .int (I 23 1)) fa_X2_53 dX2_isOtherAt_4 rfl (by decide) (ltn rfl) rfl ?_
    refine v_is hpe ?_
    refine v_icmp_geN (a := i) (b := pp) (tgt := 33) dX2_isOtherAt_7 (by decide) rfl rfl (by omega) (by omega) (fun h => by exfalso; omega) (fun h2 => ?_)
    refine v_iload_n dX2_isOtherAt_10 rfl 0 rfl ?_
    refine v_iload_n dX2_isOtherAt_11 rfl 2 rfl ?_
    refine v_icmp_eqN (a := i) (b := pz) (tgt := 27) dX2_isOtherAt_12 (by decide) rfl rfl (by omega) (by omega) (fun h3 => ?_) (fun h3 => ?_)
    · -- i eq pz
      refine v_inc (v := nI (i + 1)) (lv2 := [(3, .int (nI (i + 1))), (0, .ref (g.1 + 23)), (1, .int (nI pz)), (2, .int (nI cz))]) dX2_isOtherAt_27 0 rfl (nx_inc rfl) (by decide) rfl ?_
      refine v_goto (tgt := 2) dX2_isOtherAt_30 (by decide) ?_
      exact ih (oth_step hinv (fun h => absurd h3 h))
    · -- i ne pz
      refine v_aload_n dX2_isOtherAt_15 rfl 1 rfl ?_
      refine v_get (v := .ref (g.1 + 27)) fa_X2_21 dX2_isOtherAt_16 rfl (by decide) (ltn rfl) rfl ?_
      refine v_iload_n dX2_isOtherAt_19 rfl 0 rfl ?_
      refine v_iaload (len := 6) (j := i) dX2_isOtherAt_20 rfl (ltn rfl) rfl (by decide) rfl (by omega) ?_
      refine v_iload_n dX2_isOtherAt_21 rfl 3 rfl ?_
      refine v_icmp_ne (tgt := 27) dX2_isOtherAt_22 (by decide) (fun h4 => ?_) (fun h4 => ?_)
      · -- I 27 i ne nI cz
        refine v_inc (v := nI (i + 1)) (lv2 := [(3, .int (nI (i + 1))), (0, .ref (g.1 + 23)), (1, .int (nI pz)), (2, .int (nI cz))]) dX2_isOtherAt_27 0 rfl (nx_inc rfl) (by decide) rfl ?_
        refine v_goto (tgt := 2) dX2_isOtherAt_30 (by decide) ?_
        exact ih (oth_step hinv (fun _ => h4))
      · -- I 27 i eq nI cz
        refine v_iconst (v := 1) dX2_isOtherAt_25 (by decide) ?_
        exact v_zret hr dX2_isOtherAt_26 (by first | rfl | exact nbq) (psi (bq_t ⟨i, hi, h3, h4⟩).symm rfl)
set_option maxRecDepth 100000 in
set_option maxHeartbeats 400000 in
theorem c_chartsOf_23 {g : Gl} {I : Ty} {L : TL} {na nt ni m : Nat} {nl : Nat → Nat} (st : Int32) (pp : Nat) (hpp : pp ≤ 6) (hpe : I 23 1 = nI pp) : Ct g yX2_chartsOf cX2_chartsOf 4 (some .int) 0 0 0 [.ref (g.1 + 23), .int st] I L (RT na nt ni) (NT nl) (NB + m) (Ps (some (.int (chF (I 29) st pp))) (I) L (RT na nt ni) (NT nl) (NB + m)) := by
  refine ct_of (by decide +kernel) (Nat.le_of_ble_eq_true rfl) (fun F hnm hr => ?_)
  clear hnm
  show V g F cX2_chartsOf RX2 4 0 0 [(0, .ref (g.1 + 23)), (1, .int st)] [] I L (RT na nt ni) (NT nl) (NB + m) 0 0
  refine v_iconst (v := 0) dX2_chartsOf_0 (by decide) ?_
  refine v_istore_n (lv2 := [(2, .int 0), (0, .ref (g.1 + 23)), (1, .int st)]) dX2_chartsOf_1 rfl (by decide) rfl ?_
  refine v_iconst (v := 0) dX2_chartsOf_2 (by decide) ?_
  refine v_istore_n (lv2 := [(3, .int 0), (2, .int 0), (0, .ref (g.1 + 23)), (1, .int st)]) dX2_chartsOf_3 rfl (by decide) rfl ?_
  refine v_lv (lv2 := [(3, .int (nI 0)), (2, .int (chF (I 29) st 0)), (0, .ref (g.1 + 23)), (1, .int st)]) (by rfl) ?_
  refine dloop (P := fun i => V g F cX2_chartsOf RX2 4 0 4 [(3, .int (nI i)), (2, .int (chF (I 29) st i)), (0, .ref (g.1 + 23)), (1, .int st)] [] I L (RT na nt ni) (NT nl) (NB + m) 0 0) pp ?_ ?_ 0 (Nat.zero_le _)
  · refine v_iload_n dX2_chartsOf_4 rfl 0 rfl ?_
    refine v_aload_n dX2_chartsOf_5 rfl 2 rfl ?_
    refine v_get (v := .int (I 23 1)) fa_X2_53 dX2_chartsOf_6 rfl (by decide) (ltn rfl) rfl ?_
    refine v_is hpe ?_
    refine v_icmp_geN (a := pp) (b := pp) (tgt := 35) dX2_chartsOf_9 (by decide) rfl rfl (by omega) (by omega) (fun h1 => ?_) (fun h => by exfalso; omega)
    refine v_iload_n dX2_chartsOf_35 rfl 1 rfl ?_
    exact v_iret hr dX2_chartsOf_36 (psi rfl rfl)
  · intro i hi ih
    refine v_iload_n dX2_chartsOf_4 rfl 0 rfl ?_
    refine v_aload_n dX2_chartsOf_5 rfl 2 rfl ?_
    refine v_get (v := .int (I 23 1)) fa_X2_53 dX2_chartsOf_6 rfl (by decide) (ltn rfl) rfl ?_
    refine v_is hpe ?_
    refine v_icmp_geN (a := i) (b := pp) (tgt := 35) dX2_chartsOf_9 (by decide) rfl rfl (by omega) (by omega) (fun h => by exfalso; omega) (fun h2 => ?_)
    refine v_iload_n dX2_chartsOf_12 rfl 3 rfl ?_
    refine v_iload_n dX2_chartsOf_13 rfl 0 rfl ?_
    refine v_ishr dX2_chartsOf_14 ?_
    refine v_iconst (v := 1) dX2_chartsOf_15 (by decide) ?_
    refine v_iand dX2_chartsOf_16 ?_
    refine v_if_eq (tgt := 29) dX2_chartsOf_17 (by decide) (fun h4 => ?_) (fun h4 => ?_)
    · refine v_inc (v := nI (i + 1)) (lv2 := [(3, .int (nI (i + 1))), (2, .int (chF (I 29) st i)), (0, .ref (g.1 + 23)), (1, .int st)]) dX2_chartsOf_29 0 rfl (nx_inc rfl) (by decide) rfl ?_
      refine v_goto (tgt := 4) dX2_chartsOf_32 (by decide) ?_
      refine v_lv (lv2 := [(3, .int (nI (i + 1))), (2, .int (chF (I 29) st (i + 1))), (0, .ref (g.1 + 23)), (1, .int st)]) (by simp only [chF, ifc_f ((hb_z (by omega)).mp h4)]) ?_
      exact ih
    · refine v_iload_n dX2_chartsOf_20 rfl 1 rfl ?_
      refine v_aload_n dX2_chartsOf_21 rfl 2 rfl ?_
      refine v_get (v := .ref (g.1 + 29)) fa_X2_27 dX2_chartsOf_22 rfl (by decide) (ltn rfl) rfl ?_
      refine v_iload_n dX2_chartsOf_25 rfl 0 rfl ?_
      refine v_iaload (len := 6) (j := i) dX2_chartsOf_26 rfl (ltn rfl) rfl (by decide) rfl (by omega) ?_
      refine v_ior dX2_chartsOf_27 ?_
      refine v_istore_n (lv2 := [(2, .int ((chF (I 29) st i) ||| I 29 i)), (3, .int (nI i)), (0, .ref (g.1 + 23)), (1, .int st)]) dX2_chartsOf_28 rfl (by decide) rfl ?_
      refine v_inc (v := nI (i + 1)) (lv2 := [(3, .int (nI (i + 1))), (2, .int ((chF (I 29) st i) ||| I 29 i)), (0, .ref (g.1 + 23)), (1, .int st)]) dX2_chartsOf_29 1 rfl (nx_inc rfl) (by decide) rfl ?_
      refine v_goto (tgt := 4) dX2_chartsOf_32 (by decide) ?_
      refine v_lv (lv2 := [(3, .int (nI (i + 1))), (2, .int (chF (I 29) st (i + 1))), (0, .ref (g.1 + 23)), (1, .int st)]) (by simp only [chF, ifc_t (Classical.byContradiction (fun q => h4 ((hb_z (by omega)).mpr q)))]) ?_
      exact ih
set_option maxRecDepth 100000 in
set_option maxHeartbeats 400000 in
theorem c_atGoals_23 {g : Gl} {I : Ty} {L : TL} {na nt ni m : Nat} {nl : Nat → Nat}  (pp : Nat) (hpp : pp ≤ 6) (hpe : I 23 1 = nI pp) : Ct g yX2_atGoals cX2_atGoals 3 (some .int) 0 0 0 [.ref (g.1 + 23)] I L (RT na nt ni) (NT nl) (NB + m) (Ps (some (.int (arrF (I 27) (I 28) pp))) (I) L (RT na nt ni) (NT nl) (NB + m)) := by
  refine ct_of (by decide +kernel) (Nat.le_of_ble_eq_true rfl) (fun F hnm hr => ?_)
  clear hnm
  show V g F cX2_atGoals RX2 3 0 0 [(0, .ref (g.1 + 23))] [] I L (RT na nt ni) (NT nl) (NB + m) 0 0
  refine v_iconst (v := 0) dX2_atGoals_0 (by decide) ?_
  refine v_istore_n (lv2 := [(1, .int 0), (0, .ref (g.1 + 23))]) dX2_atGoals_1 rfl (by decide) rfl ?_
  refine v_iconst (v := 0) dX2_atGoals_2 (by decide) ?_
  refine v_istore_n (lv2 := [(2, .int 0), (1, .int 0), (0, .ref (g.1 + 23))]) dX2_atGoals_3 rfl (by decide) rfl ?_
  refine v_lv (lv2 := [(2, .int (nI 0)), (1, .int (arrF (I 27) (I 28) 0)), (0, .ref (g.1 + 23))]) (by rfl) ?_
  refine dloop (P := fun i => V g F cX2_atGoals RX2 3 0 4 [(2, .int (nI i)), (1, .int (arrF (I 27) (I 28) i)), (0, .ref (g.1 + 23))] [] I L (RT na nt ni) (NT nl) (NB + m) 0 0) pp ?_ ?_ 0 (Nat.zero_le _)
  · refine v_iload_n dX2_atGoals_4 rfl 0 rfl ?_
    refine v_aload_n dX2_atGoals_5 rfl 2 rfl ?_
    refine v_get (v := .int (I 23 1)) fa_X2_53 dX2_atGoals_6 rfl (by decide) (ltn rfl) rfl ?_
    refine v_is hpe ?_
    refine v_icmp_geN (a := pp) (b := pp) (tgt := 39) dX2_atGoals_9 (by decide) rfl rfl (by omega) (by omega) (fun h1 => ?_) (fun h => by exfalso; omega)
    refine v_iload_n dX2_atGoals_39 rfl 1 rfl ?_
    exact v_iret hr dX2_atGoals_40 (psi rfl rfl)
  · intro i hi ih
    refine v_iload_n dX2_atGoals_4 rfl 0 rfl ?_
    refine v_aload_n dX2_atGoals_5 rfl 2 rfl ?_
    refine v_get (v := .int (I 23 1)) fa_X2_53 dX2_atGoals_6 rfl (by decide) (ltn rfl) rfl ?_
    refine v_is hpe ?_
    refine v_icmp_geN (a := i) (b := pp) (tgt := 39) dX2_atGoals_9 (by decide) rfl rfl (by omega) (by omega) (fun h => by exfalso; omega) (fun h2 => ?_)
    refine v_aload_n dX2_atGoals_12 rfl 2 rfl ?_
    refine v_get (v := .ref (g.1 + 27)) fa_X2_21 dX2_atGoals_13 rfl (by decide) (ltn rfl) rfl ?_
    refine v_iload_n dX2_atGoals_16 rfl 0 rfl ?_
    refine v_iaload (len := 6) (j := i) dX2_atGoals_17 rfl (ltn rfl) rfl (by decide) rfl (by omega) ?_
    refine v_aload_n dX2_atGoals_18 rfl 2 rfl ?_
    refine v_get (v := .ref (g.1 + 28)) fa_X2_24 dX2_atGoals_19 rfl (by decide) (ltn rfl) rfl ?_
    refine v_iload_n dX2_atGoals_22 rfl 0 rfl ?_
    refine v_iaload (len := 6) (j := i) dX2_atGoals_23 rfl (ltn rfl) rfl (by decide) rfl (by omega) ?_
    refine v_icmp_ne (tgt := 33) dX2_atGoals_24 (by decide) (fun h3 => ?_) (fun h3 => ?_)
    · -- I 27 i ne I 28 i
      refine v_inc (v := nI (i + 1)) (lv2 := [(2, .int (nI (i + 1))), (1, .int (arrF (I 27) (I 28) i)), (0, .ref (g.1 + 23))]) dX2_atGoals_33 0 rfl (nx_inc rfl) (by decide) rfl ?_
      refine v_goto (tgt := 4) dX2_atGoals_36 (by decide) ?_
      refine v_lv (lv2 := [(2, .int (nI (i + 1))), (1, .int (arrF (I 27) (I 28) (i + 1))), (0, .ref (g.1 + 23))]) (by simp only [arrF, ifc_f h3, Int32.or_zero]) ?_
      exact ih
    · -- I 27 i eq I 28 i
      refine v_iload_n dX2_atGoals_27 rfl 1 rfl ?_
      refine v_iconst (v := 1) dX2_atGoals_28 (by decide) ?_
      refine v_iload_n dX2_atGoals_29 rfl 0 rfl ?_
      refine v_ishl dX2_atGoals_30 ?_
      refine v_ior dX2_atGoals_31 ?_
      refine v_istore_n (lv2 := [(1, .int ((arrF (I 27) (I 28) i) ||| (1 <<< (nI i &&& 31)))), (2, .int (nI i)), (0, .ref (g.1 + 23))]) dX2_atGoals_32 rfl (by decide) rfl ?_
      refine v_inc (v := nI (i + 1)) (lv2 := [(2, .int (nI (i + 1))), (1, .int ((arrF (I 27) (I 28) i) ||| (1 <<< (nI i &&& 31)))), (0, .ref (g.1 + 23))]) dX2_atGoals_33 1 rfl (nx_inc rfl) (by decide) rfl ?_
      refine v_goto (tgt := 4) dX2_atGoals_36 (by decide) ?_
      refine v_lv (lv2 := [(2, .int (nI (i + 1))), (1, .int (arrF (I 27) (I 28) (i + 1))), (0, .ref (g.1 + 23))]) (by simp only [arrF, ifc_t h3, Int32.or_zero]) ?_
      exact ih
set_option maxRecDepth 100000 in
set_option maxHeartbeats 400000 in
theorem c_allNoes_23 {g : Gl} {I : Ty} {L : TL} {na nt ni m : Nat} {nl : Nat → Nat}  (pp : Nat) (hpp : pp ≤ 6) (hpe : I 23 1 = nI pp) : Ct g yX2_allNoes cX2_allNoes 3 (some .int) 0 0 0 [.ref (g.1 + 23)] I L (RT na nt ni) (NT nl) (NB + m) (Ps (some (.int (sumF (I 30) pp))) (I) L (RT na nt ni) (NT nl) (NB + m)) := by
  refine ct_of (by decide +kernel) (Nat.le_of_ble_eq_true rfl) (fun F hnm hr => ?_)
  clear hnm
  show V g F cX2_allNoes RX2 3 0 0 [(0, .ref (g.1 + 23))] [] I L (RT na nt ni) (NT nl) (NB + m) 0 0
  refine v_iconst (v := 0) dX2_allNoes_0 (by decide) ?_
  refine v_istore_n (lv2 := [(1, .int 0), (0, .ref (g.1 + 23))]) dX2_allNoes_1 rfl (by decide) rfl ?_
  refine v_iconst (v := 0) dX2_allNoes_2 (by decide) ?_
  refine v_istore_n (lv2 := [(2, .int 0), (1, .int 0), (0, .ref (g.1 + 23))]) dX2_allNoes_3 rfl (by decide) rfl ?_
  refine v_lv (lv2 := [(2, .int (nI 0)), (1, .int (sumF (I 30) 0)), (0, .ref (g.1 + 23))]) (by rfl) ?_
  refine dloop (P := fun i => V g F cX2_allNoes RX2 3 0 4 [(2, .int (nI i)), (1, .int (sumF (I 30) i)), (0, .ref (g.1 + 23))] [] I L (RT na nt ni) (NT nl) (NB + m) 0 0) pp ?_ ?_ 0 (Nat.zero_le _)
  · refine v_iload_n dX2_allNoes_4 rfl 0 rfl ?_
    refine v_aload_n dX2_allNoes_5 rfl 2 rfl ?_
    refine v_get (v := .int (I 23 1)) fa_X2_53 dX2_allNoes_6 rfl (by decide) (ltn rfl) rfl ?_
    refine v_is hpe ?_
    refine v_icmp_geN (a := pp) (b := pp) (tgt := 27) dX2_allNoes_9 (by decide) rfl rfl (by omega) (by omega) (fun h1 => ?_) (fun h => by exfalso; omega)
    refine v_iload_n dX2_allNoes_27 rfl 1 rfl ?_
    exact v_iret hr dX2_allNoes_28 (psi rfl rfl)
  · intro i hi ih
    refine v_iload_n dX2_allNoes_4 rfl 0 rfl ?_
    refine v_aload_n dX2_allNoes_5 rfl 2 rfl ?_
    refine v_get (v := .int (I 23 1)) fa_X2_53 dX2_allNoes_6 rfl (by decide) (ltn rfl) rfl ?_
    refine v_is hpe ?_
    refine v_icmp_geN (a := i) (b := pp) (tgt := 27) dX2_allNoes_9 (by decide) rfl rfl (by omega) (by omega) (fun h => by exfalso; omega) (fun h2 => ?_)
    refine v_iload_n dX2_allNoes_12 rfl 1 rfl ?_
    refine v_aload_n dX2_allNoes_13 rfl 2 rfl ?_
    refine v_get (v := .ref (g.1 + 30)) fa_X2_30 dX2_allNoes_14 rfl (by decide) (ltn rfl) rfl ?_
    refine v_iload_n dX2_allNoes_17 rfl 0 rfl ?_
    refine v_iaload (len := 6) (j := i) dX2_allNoes_18 rfl (ltn rfl) rfl (by decide) rfl (by omega) ?_
    refine v_iadd dX2_allNoes_19 ?_
    refine v_istore_n (lv2 := [(1, .int ((sumF (I 30) i) + I 30 i)), (2, .int (nI i)), (0, .ref (g.1 + 23))]) dX2_allNoes_20 rfl (by decide) rfl ?_
    refine v_inc (v := nI (i + 1)) (lv2 := [(2, .int (nI (i + 1))), (1, .int ((sumF (I 30) i) + I 30 i)), (0, .ref (g.1 + 23))]) dX2_allNoes_21 1 rfl (nx_inc rfl) (by decide) rfl ?_
    refine v_goto (tgt := 4) dX2_allNoes_24 (by decide) ?_
    refine v_lv (lv2 := [(2, .int (nI (i + 1))), (1, .int (sumF (I 30) (i + 1))), (0, .ref (g.1 + 23))]) (by rfl) ?_
    exact ih
set_option maxRecDepth 100000 in
set_option maxHeartbeats 400000 in
theorem c_isOther_33 {g : Gl} {I : Ty} {L : TL} {na nt ni m : Nat} {nl : Nat → Nat} (pz : Nat) (cz : Nat) (pp : Nat) (hpp : pp ≤ 6) (hpe : I 33 1 = nI pp) (hpz : pz < 6) (hcz : cz < 16) : Ct g yX2_isOtherAt cX2_isOtherAt 4 (some .boolean) 0 0 0 [.ref (g.1 + 33), .int (nI pz), .int (nI cz)] I L (RT na nt ni) (NT nl) (NB + m) (Ps (some (.int (bq (∃ o, o < pp ∧ o ≠ pz ∧ I 37 o = nI cz)))) (I) L (RT na nt ni) (NT nl) (NB + m)) := by
  refine ct_of (by decide +kernel) (Nat.le_of_ble_eq_true rfl) (fun F hnm hr => ?_)
  clear hnm
  show V g F cX2_isOtherAt RX2 4 0 0 [(0, .ref (g.1 + 33)), (1, .int (nI pz)), (2, .int (nI cz))] [] I L (RT na nt ni) (NT nl) (NB + m) 0 0
  refine v_iconst (v := 0) dX2_isOtherAt_0 (by decide) ?_
  refine v_istore_n (lv2 := [(3, .int 0), (0, .ref (g.1 + 33)), (1, .int (nI pz)), (2, .int (nI cz))]) dX2_isOtherAt_1 rfl (by decide) rfl ?_
  refine v_lv (lv2 := [(3, .int (nI 0)), (0, .ref (g.1 + 33)), (1, .int (nI pz)), (2, .int (nI cz))]) (by rfl) ?_
  refine dloop (P := fun i => (∀ o, o < i → o ≠ pz → ¬ I 37 o = nI cz) → V g F cX2_isOtherAt RX2 4 0 2 [(3, .int (nI i)), (0, .ref (g.1 + 33)), (1, .int (nI pz)), (2, .int (nI cz))] [] I L (RT na nt ni) (NT nl) (NB + m) 0 0) pp ?_ ?_ 0 (Nat.zero_le _) (fun o h => absurd h (Nat.not_lt_zero o))
  · intro hinv
    refine v_iload_n dX2_isOtherAt_2 rfl 0 rfl ?_
    refine v_aload_n dX2_isOtherAt_3 rfl 1 rfl ?_
    refine v_get (v := .int (I 33 1)) fa_X2_53 dX2_isOtherAt_4 rfl (by decide) (ltn rfl) rfl ?_
    refine v_is hpe ?_
    refine v_icmp_geN (a := pp) (b := pp) (tgt := 33) dX2_isOtherAt_7 (by decide) rfl rfl (by omega) (by omega) (fun h1 => ?_) (fun h => by exfalso; omega)
    refine v_iconst (v := 0) dX2_isOtherAt_33 (by decide) ?_
    exact v_zret hr dX2_isOtherAt_34 (by first | rfl | exact nbq) (psi (bq_f (fun ⟨o, h1, h2, h3⟩ => hinv o h1 h2 h3)).symm rfl)
  · intro i hi ih
    intro hinv
    refine v_iload_n dX2_isOtherAt_2 rfl 0 rfl ?_
    refine v_aload_n dX2_isOtherAt_3 rfl 1 rfl ?_
    refine v_get (v := .int (I 33 1)) fa_X2_53 dX2_isOtherAt_4 rfl (by decide) (ltn rfl) rfl ?_
    refine v_is hpe ?_
    refine v_icmp_geN (a := i) (b := pp) (tgt := 33) dX2_isOtherAt_7 (by decide) rfl rfl (by omega) (by omega) (fun h => by exfalso; omega) (fun h2 => ?_)
    refine v_iload_n dX2_isOtherAt_10 rfl 0 rfl ?_
    refine v_iload_n dX2_isOtherAt_11 rfl 2 rfl ?_
    refine v_icmp_eqN (a := i) (b := pz) (tgt := 27) dX2_isOtherAt_12 (by decide) rfl rfl (by omega) (by omega) (fun h3 => ?_) (fun h3 => ?_)
    · -- i eq pz
      refine v_inc (v := nI (i + 1)) (lv2 := [(3, .int (nI (i + 1))), (0, .ref (g.1 + 33)), (1, .int (nI pz)), (2, .int (nI cz))]) dX2_isOtherAt_27 0 rfl (nx_inc rfl) (by decide) rfl ?_
      refine v_goto (tgt := 2) dX2_isOtherAt_30 (by decide) ?_
      exact ih (oth_step hinv (fun h => absurd h3 h))
    · -- i ne pz
      refine v_aload_n dX2_isOtherAt_15 rfl 1 rfl ?_
      refine v_get (v := .ref (g.1 + 37)) fa_X2_21 dX2_isOtherAt_16 rfl (by decide) (ltn rfl) rfl ?_
      refine v_iload_n dX2_isOtherAt_19 rfl 0 rfl ?_
      refine v_iaload (len := 6) (j := i) dX2_isOtherAt_20 rfl (ltn rfl) rfl (by decide) rfl (by omega) ?_
      refine v_iload_n dX2_isOtherAt_21 rfl 3 rfl ?_
      refine v_icmp_ne (tgt := 27) dX2_isOtherAt_22 (by decide) (fun h4 => ?_) (fun h4 => ?_)
      · -- I 37 i ne nI cz
        refine v_inc (v := nI (i + 1)) (lv2 := [(3, .int (nI (i + 1))), (0, .ref (g.1 + 33)), (1, .int (nI pz)), (2, .int (nI cz))]) dX2_isOtherAt_27 0 rfl (nx_inc rfl) (by decide) rfl ?_
        refine v_goto (tgt := 2) dX2_isOtherAt_30 (by decide) ?_
        exact ih (oth_step hinv (fun _ => h4))
      · -- I 37 i eq nI cz
        refine v_iconst (v := 1) dX2_isOtherAt_25 (by decide) ?_
        exact v_zret hr dX2_isOtherAt_26 (by first | rfl | exact nbq) (psi (bq_t ⟨i, hi, h3, h4⟩).symm rfl)
set_option maxRecDepth 100000 in
set_option maxHeartbeats 400000 in
theorem c_chartsOf_33 {g : Gl} {I : Ty} {L : TL} {na nt ni m : Nat} {nl : Nat → Nat} (st : Int32) (pp : Nat) (hpp : pp ≤ 6) (hpe : I 33 1 = nI pp) : Ct g yX2_chartsOf cX2_chartsOf 4 (some .int) 0 0 0 [.ref (g.1 + 33), .int st] I L (RT na nt ni) (NT nl) (NB + m) (Ps (some (.int (chF (I 39) st pp))) (I) L (RT na nt ni) (NT nl) (NB + m)) := by
  refine ct_of (by decide +kernel) (Nat.le_of_ble_eq_true rfl) (fun F hnm hr => ?_)
  clear hnm
  show V g F cX2_chartsOf RX2 4 0 0 [(0, .ref (g.1 + 33)), (1, .int st)] [] I L (RT na nt ni) (NT nl) (NB + m) 0 0
  refine v_iconst (v := 0) dX2_chartsOf_0 (by decide) ?_
  refine v_istore_n (lv2 := [(2, .int 0), (0, .ref (g.1 + 33)), (1, .int st)]) dX2_chartsOf_1 rfl (by decide) rfl ?_
  refine v_iconst (v := 0) dX2_chartsOf_2 (by decide) ?_
  refine v_istore_n (lv2 := [(3, .int 0), (2, .int 0), (0, .ref (g.1 + 33)), (1, .int st)]) dX2_chartsOf_3 rfl (by decide) rfl ?_
  refine v_lv (lv2 := [(3, .int (nI 0)), (2, .int (chF (I 39) st 0)), (0, .ref (g.1 + 33)), (1, .int st)]) (by rfl) ?_
  refine dloop (P := fun i => V g F cX2_chartsOf RX2 4 0 4 [(3, .int (nI i)), (2, .int (chF (I 39) st i)), (0, .ref (g.1 + 33)), (1, .int st)] [] I L (RT na nt ni) (NT nl) (NB + m) 0 0) pp ?_ ?_ 0 (Nat.zero_le _)
  · refine v_iload_n dX2_chartsOf_4 rfl 0 rfl ?_
    refine v_aload_n dX2_chartsOf_5 rfl 2 rfl ?_
    refine v_get (v := .int (I 33 1)) fa_X2_53 dX2_chartsOf_6 rfl (by decide) (ltn rfl) rfl ?_
    refine v_is hpe ?_
    refine v_icmp_geN (a := pp) (b := pp) (tgt := 35) dX2_chartsOf_9 (by decide) rfl rfl (by omega) (by omega) (fun h1 => ?_) (fun h => by exfalso; omega)
    refine v_iload_n dX2_chartsOf_35 rfl 1 rfl ?_
    exact v_iret hr dX2_chartsOf_36 (psi rfl rfl)
  · intro i hi ih
    refine v_iload_n dX2_chartsOf_4 rfl 0 rfl ?_
    refine v_aload_n dX2_chartsOf_5 rfl 2 rfl ?_
    refine v_get (v := .int (I 33 1)) fa_X2_53 dX2_chartsOf_6 rfl (by decide) (ltn rfl) rfl ?_
    refine v_is hpe ?_
    refine v_icmp_geN (a := i) (b := pp) (tgt := 35) dX2_chartsOf_9 (by decide) rfl rfl (by omega) (by omega) (fun h => by exfalso; omega) (fun h2 => ?_)
    refine v_iload_n dX2_chartsOf_12 rfl 3 rfl ?_
    refine v_iload_n dX2_chartsOf_13 rfl 0 rfl ?_
    refine v_ishr dX2_chartsOf_14 ?_
    refine v_iconst (v := 1) dX2_chartsOf_15 (by decide) ?_
    refine v_iand dX2_chartsOf_16 ?_
    refine v_if_eq (tgt := 29) dX2_chartsOf_17 (by decide) (fun h4 => ?_) (fun h4 => ?_)
    · refine v_inc (v := nI (i + 1)) (lv2 := [(3, .int (nI (i + 1))), (2, .int (chF (I 39) st i)), (0, .ref (g.1 + 33)), (1, .int st)]) dX2_chartsOf_29 0 rfl (nx_inc rfl) (by decide) rfl ?_
      refine v_goto (tgt := 4) dX2_chartsOf_32 (by decide) ?_
      refine v_lv (lv2 := [(3, .int (nI (i + 1))), (2, .int (chF (I 39) st (i + 1))), (0, .ref (g.1 + 33)), (1, .int st)]) (by simp only [chF, ifc_f ((hb_z (by omega)).mp h4)]) ?_
      exact ih
    · refine v_iload_n dX2_chartsOf_20 rfl 1 rfl ?_
      refine v_aload_n dX2_chartsOf_21 rfl 2 rfl ?_
      refine v_get (v := .ref (g.1 + 39)) fa_X2_27 dX2_chartsOf_22 rfl (by decide) (ltn rfl) rfl ?_
      refine v_iload_n dX2_chartsOf_25 rfl 0 rfl ?_
      refine v_iaload (len := 6) (j := i) dX2_chartsOf_26 rfl (ltn rfl) rfl (by decide) rfl (by omega) ?_
      refine v_ior dX2_chartsOf_27 ?_
      refine v_istore_n (lv2 := [(2, .int ((chF (I 39) st i) ||| I 39 i)), (3, .int (nI i)), (0, .ref (g.1 + 33)), (1, .int st)]) dX2_chartsOf_28 rfl (by decide) rfl ?_
      refine v_inc (v := nI (i + 1)) (lv2 := [(3, .int (nI (i + 1))), (2, .int ((chF (I 39) st i) ||| I 39 i)), (0, .ref (g.1 + 33)), (1, .int st)]) dX2_chartsOf_29 1 rfl (nx_inc rfl) (by decide) rfl ?_
      refine v_goto (tgt := 4) dX2_chartsOf_32 (by decide) ?_
      refine v_lv (lv2 := [(3, .int (nI (i + 1))), (2, .int (chF (I 39) st (i + 1))), (0, .ref (g.1 + 33)), (1, .int st)]) (by simp only [chF, ifc_t (Classical.byContradiction (fun q => h4 ((hb_z (by omega)).mpr q)))]) ?_
      exact ih
set_option maxRecDepth 100000 in
set_option maxHeartbeats 400000 in
theorem c_atGoals_33 {g : Gl} {I : Ty} {L : TL} {na nt ni m : Nat} {nl : Nat → Nat}  (pp : Nat) (hpp : pp ≤ 6) (hpe : I 33 1 = nI pp) : Ct g yX2_atGoals cX2_atGoals 3 (some .int) 0 0 0 [.ref (g.1 + 33)] I L (RT na nt ni) (NT nl) (NB + m) (Ps (some (.int (arrF (I 37) (I 38) pp))) (I) L (RT na nt ni) (NT nl) (NB + m)) := by
  refine ct_of (by decide +kernel) (Nat.le_of_ble_eq_true rfl) (fun F hnm hr => ?_)
  clear hnm
  show V g F cX2_atGoals RX2 3 0 0 [(0, .ref (g.1 + 33))] [] I L (RT na nt ni) (NT nl) (NB + m) 0 0
  refine v_iconst (v := 0) dX2_atGoals_0 (by decide) ?_
  refine v_istore_n (lv2 := [(1, .int 0), (0, .ref (g.1 + 33))]) dX2_atGoals_1 rfl (by decide) rfl ?_
  refine v_iconst (v := 0) dX2_atGoals_2 (by decide) ?_
  refine v_istore_n (lv2 := [(2, .int 0), (1, .int 0), (0, .ref (g.1 + 33))]) dX2_atGoals_3 rfl (by decide) rfl ?_
  refine v_lv (lv2 := [(2, .int (nI 0)), (1, .int (arrF (I 37) (I 38) 0)), (0, .ref (g.1 + 33))]) (by rfl) ?_
  refine dloop (P := fun i => V g F cX2_atGoals RX2 3 0 4 [(2, .int (nI i)), (1, .int (arrF (I 37) (I 38) i)), (0, .ref (g.1 + 33))] [] I L (RT na nt ni) (NT nl) (NB + m) 0 0) pp ?_ ?_ 0 (Nat.zero_le _)
  · refine v_iload_n dX2_atGoals_4 rfl 0 rfl ?_
    refine v_aload_n dX2_atGoals_5 rfl 2 rfl ?_
    refine v_get (v := .int (I 33 1)) fa_X2_53 dX2_atGoals_6 rfl (by decide) (ltn rfl) rfl ?_
    refine v_is hpe ?_
    refine v_icmp_geN (a := pp) (b := pp) (tgt := 39) dX2_atGoals_9 (by decide) rfl rfl (by omega) (by omega) (fun h1 => ?_) (fun h => by exfalso; omega)
    refine v_iload_n dX2_atGoals_39 rfl 1 rfl ?_
    exact v_iret hr dX2_atGoals_40 (psi rfl rfl)
  · intro i hi ih
    refine v_iload_n dX2_atGoals_4 rfl 0 rfl ?_
    refine v_aload_n dX2_atGoals_5 rfl 2 rfl ?_
    refine v_get (v := .int (I 33 1)) fa_X2_53 dX2_atGoals_6 rfl (by decide) (ltn rfl) rfl ?_
    refine v_is hpe ?_
    refine v_icmp_geN (a := i) (b := pp) (tgt := 39) dX2_atGoals_9 (by decide) rfl rfl (by omega) (by omega) (fun h => by exfalso; omega) (fun h2 => ?_)
    refine v_aload_n dX2_atGoals_12 rfl 2 rfl ?_
    refine v_get (v := .ref (g.1 + 37)) fa_X2_21 dX2_atGoals_13 rfl (by decide) (ltn rfl) rfl ?_
    refine v_iload_n dX2_atGoals_16 rfl 0 rfl ?_
    refine v_iaload (len := 6) (j := i) dX2_atGoals_17 rfl (ltn rfl) rfl (by decide) rfl (by omega) ?_
    refine v_aload_n dX2_atGoals_18 rfl 2 rfl ?_
    refine v_get (v := .ref (g.1 + 38)) fa_X2_24 dX2_atGoals_19 rfl (by decide) (ltn rfl) rfl ?_
    refine v_iload_n dX2_atGoals_22 rfl 0 rfl ?_
    refine v_iaload (len := 6) (j := i) dX2_atGoals_23 rfl (ltn rfl) rfl (by decide) rfl (by omega) ?_
    refine v_icmp_ne (tgt := 33) dX2_atGoals_24 (by decide) (fun h3 => ?_) (fun h3 => ?_)
    · -- I 37 i ne I 38 i
      refine v_inc (v := nI (i + 1)) (lv2 := [(2, .int (nI (i + 1))), (1, .int (arrF (I 37) (I 38) i)), (0, .ref (g.1 + 33))]) dX2_atGoals_33 0 rfl (nx_inc rfl) (by decide) rfl ?_
      refine v_goto (tgt := 4) dX2_atGoals_36 (by decide) ?_
      refine v_lv (lv2 := [(2, .int (nI (i + 1))), (1, .int (arrF (I 37) (I 38) (i + 1))), (0, .ref (g.1 + 33))]) (by simp only [arrF, ifc_f h3, Int32.or_zero]) ?_
      exact ih
    · -- I 37 i eq I 38 i
      refine v_iload_n dX2_atGoals_27 rfl 1 rfl ?_
      refine v_iconst (v := 1) dX2_atGoals_28 (by decide) ?_
      refine v_iload_n dX2_atGoals_29 rfl 0 rfl ?_
      refine v_ishl dX2_atGoals_30 ?_
      refine v_ior dX2_atGoals_31 ?_
      refine v_istore_n (lv2 := [(1, .int ((arrF (I 37) (I 38) i) ||| (1 <<< (nI i &&& 31)))), (2, .int (nI i)), (0, .ref (g.1 + 33))]) dX2_atGoals_32 rfl (by decide) rfl ?_
      refine v_inc (v := nI (i + 1)) (lv2 := [(2, .int (nI (i + 1))), (1, .int ((arrF (I 37) (I 38) i) ||| (1 <<< (nI i &&& 31)))), (0, .ref (g.1 + 33))]) dX2_atGoals_33 1 rfl (nx_inc rfl) (by decide) rfl ?_
      refine v_goto (tgt := 4) dX2_atGoals_36 (by decide) ?_
      refine v_lv (lv2 := [(2, .int (nI (i + 1))), (1, .int (arrF (I 37) (I 38) (i + 1))), (0, .ref (g.1 + 33))]) (by simp only [arrF, ifc_t h3, Int32.or_zero]) ?_
      exact ih
set_option maxRecDepth 100000 in
set_option maxHeartbeats 400000 in
theorem c_allNoes_33 {g : Gl} {I : Ty} {L : TL} {na nt ni m : Nat} {nl : Nat → Nat}  (pp : Nat) (hpp : pp ≤ 6) (hpe : I 33 1 = nI pp) : Ct g yX2_allNoes cX2_allNoes 3 (some .int) 0 0 0 [.ref (g.1 + 33)] I L (RT na nt ni) (NT nl) (NB + m) (Ps (some (.int (sumF (I 40) pp))) (I) L (RT na nt ni) (NT nl) (NB + m)) := by
  refine ct_of (by decide +kernel) (Nat.le_of_ble_eq_true rfl) (fun F hnm hr => ?_)
  clear hnm
  show V g F cX2_allNoes RX2 3 0 0 [(0, .ref (g.1 + 33))] [] I L (RT na nt ni) (NT nl) (NB + m) 0 0
  refine v_iconst (v := 0) dX2_allNoes_0 (by decide) ?_
  refine v_istore_n (lv2 := [(1, .int 0), (0, .ref (g.1 + 33))]) dX2_allNoes_1 rfl (by decide) rfl ?_
  refine v_iconst (v := 0) dX2_allNoes_2 (by decide) ?_
  refine v_istore_n (lv2 := [(2, .int 0), (1, .int 0), (0, .ref (g.1 + 33))]) dX2_allNoes_3 rfl (by decide) rfl ?_
  refine v_lv (lv2 := [(2, .int (nI 0)), (1, .int (sumF (I 40) 0)), (0, .ref (g.1 + 33))]) (by rfl) ?_
  refine dloop (P := fun i => V g F cX2_allNoes RX2 3 0 4 [(2, .int (nI i)), (1, .int (sumF (I 40) i)), (0, .ref (g.1 + 33))] [] I L (RT na nt ni) (NT nl) (NB + m) 0 0) pp ?_ ?_ 0 (Nat.zero_le _)
  · refine v_iload_n dX2_allNoes_4 rfl 0 rfl ?_
    refine v_aload_n dX2_allNoes_5 rfl 2 rfl ?_
    refine v_get (v := .int (I 33 1)) fa_X2_53 dX2_allNoes_6 rfl (by decide) (ltn rfl) rfl ?_
    refine v_is hpe ?_
    refine v_icmp_geN (a := pp) (b := pp) (tgt := 27) dX2_allNoes_9 (by decide) rfl rfl (by omega) (by omega) (fun h1 => ?_) (fun h => by exfalso; omega)
    refine v_iload_n dX2_allNoes_27 rfl 1 rfl ?_
    exact v_iret hr dX2_allNoes_28 (psi rfl rfl)
  · intro i hi ih
    refine v_iload_n dX2_allNoes_4 rfl 0 rfl ?_
    refine v_aload_n dX2_allNoes_5 rfl 2 rfl ?_
    refine v_get (v := .int (I 33 1)) fa_X2_53 dX2_allNoes_6 rfl (by decide) (ltn rfl) rfl ?_
    refine v_is hpe ?_
    refine v_icmp_geN (a := i) (b := pp) (tgt := 27) dX2_allNoes_9 (by decide) rfl rfl (by omega) (by omega) (fun h => by exfalso; omega) (fun h2 => ?_)
    refine v_iload_n dX2_allNoes_12 rfl 1 rfl ?_
    refine v_aload_n dX2_allNoes_13 rfl 2 rfl ?_
    refine v_get (v := .ref (g.1 + 40)) fa_X2_30 dX2_allNoes_14 rfl (by decide) (ltn rfl) rfl ?_
    refine v_iload_n dX2_allNoes_17 rfl 0 rfl ?_
    refine v_iaload (len := 6) (j := i) dX2_allNoes_18 rfl (ltn rfl) rfl (by decide) rfl (by omega) ?_
    refine v_iadd dX2_allNoes_19 ?_
    refine v_istore_n (lv2 := [(1, .int ((sumF (I 40) i) + I 40 i)), (2, .int (nI i)), (0, .ref (g.1 + 33))]) dX2_allNoes_20 rfl (by decide) rfl ?_
    refine v_inc (v := nI (i + 1)) (lv2 := [(2, .int (nI (i + 1))), (1, .int ((sumF (I 40) i) + I 40 i)), (0, .ref (g.1 + 33))]) dX2_allNoes_21 1 rfl (nx_inc rfl) (by decide) rfl ?_
    refine v_goto (tgt := 4) dX2_allNoes_24 (by decide) ?_
    refine v_lv (lv2 := [(2, .int (nI (i + 1))), (1, .int (sumF (I 40) (i + 1))), (0, .ref (g.1 + 33))]) (by rfl) ?_
    exact ih
