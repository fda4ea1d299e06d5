set_option maxRecDepth 100000 in
set_option maxHeartbeats 400000 in
theorem c_X7_avoids {g : Gl} {I : Ty} {L : TL} {na nt ni m : Nat} {nl : Nat → Nat} (bz : Nat) (gl : Nat) (st : Int32) (rf : Int32) (hbz : bz < 16) (hgl : gl < 16) : Ct g yX7_avoids cX7_avoids 6 (some .boolean) 3 0 0 [.int (nI bz), .int (nI gl), .int st, .int rf] I L (RT na nt ni) (NT nl) (NB + m) (Ps (some (.int (bq (lead st rf bz gl)))) (I) L (RT na nt ni) (NT nl) (NB + m)) := by
  refine ct_of (by decide +kernel) (Nat.le_of_ble_eq_true rfl) (fun F hnm hr => ?_)
  clear hnm
  show V g F cX7_avoids RX7 6 3 0 [(0, .int (nI bz)), (1, .int (nI gl)), (2, .int st), (3, .int rf)] [] I L (RT na nt ni) (NT nl) (NB + m) 0 0
  refine v_iload_n dX7_avoids_0 rfl 0 rfl ?_
  refine v_istore (lv2 := [(4, .int (nI bz)), (0, .int (nI bz)), (1, .int (nI gl)), (2, .int st), (3, .int rf)]) dX7_avoids_1 (by decide) rfl ?_
  refine v_iconst (v := 0) dX7_avoids_3 (by decide) ?_
  refine v_istore (lv2 := [(5, .int 0), (4, .int (nI bz)), (0, .int (nI bz)), (1, .int (nI gl)), (2, .int st), (3, .int rf)]) dX7_avoids_4 (by decide) rfl ?_
  refine v_lv (lv2 := [(5, .int (nI 0)), (4, .int (nI (pth (dst st gl) bz 0))), (0, .int (nI bz)), (1, .int (nI gl)), (2, .int st), (3, .int rf)]) (by rfl) ?_
  refine dloop (P := fun i => (onWy st bz gl i ∧ ∀ k, k < i → ¬ hb rf (pth (dst st gl) bz (k + 1))) → V g F cX7_avoids RX7 6 3 6 [(5, .int (nI i)), (4, .int (nI (pth (dst st gl) bz i))), (0, .int (nI bz)), (1, .int (nI gl)), (2, .int st), (3, .int rf)] [] I L (RT na nt ni) (NT nl) (NB + m) 0 0) 16 ?_ ?_ 0 (Nat.zero_le _) (⟨Or.inl rfl, fun k h => absurd h (Nat.not_lt_zero k)⟩)
  · intro hinv
    refine v_iload dX7_avoids_6 0 rfl ?_
    refine v_bipush (v := 16) dX7_avoids_8 (by decide) ?_
    refine v_icmp_geN (a := 16) (b := 16) (tgt := 52) dX7_avoids_10 (by decide) rfl rfl (by omega) (by omega) (fun h1 => ?_) (fun h => by exfalso; omega)
    refine v_iconst (v := 0) dX7_avoids_52 (by decide) ?_
    exact v_zret hr dX7_avoids_53 (by first | rfl | exact nbq) (psi (bq_f (fun q => by have h9 := lwn_15 hbz hgl q.1; rcases hinv.1 with z | z <;> omega)).symm rfl)
  · intro i hi ih
    intro hinv
    have hp16 := onWy_16 hbz hinv.1
    refine v_iload dX7_avoids_6 0 rfl ?_
    refine v_bipush (v := 16) dX7_avoids_8 (by decide) ?_
    refine v_icmp_geN (a := i) (b := 16) (tgt := 52) dX7_avoids_10 (by decide) rfl rfl (by omega) (by omega) (fun h => by exfalso; omega) (fun h2 => ?_)
    refine v_iload dX7_avoids_13 1 rfl ?_
    refine v_iload_n dX7_avoids_15 rfl 3 rfl ?_
    refine v_icmp_neN (a := (pth (dst st gl) bz i)) (b := gl) (tgt := 21) dX7_avoids_16 (by decide) rfl rfl (by omega) (by omega) (fun h4 => ?_) (fun h4 => ?_)
    · rcases onWy_ne hbz hinv.1 h4 with ⟨hfar, hfe⟩ | ⟨hl9, hil, hfe, hn16⟩
      · refine v_iload dX7_avoids_21 1 rfl ?_
        refine v_iload_n dX7_avoids_23 rfl 3 rfl ?_
        refine v_iload_n dX7_avoids_24 rfl 4 rfl ?_
        refine v_callSi (As := [.int (nI (pth (dst st gl) bz i)), .int (nI gl), .int st]) (rest := []) lk_X7_24 (c_X7_firstCell (pth (dst st gl) bz i) gl st (by omega) (by omega)) dX7_avoids_25 rfl rfl (Nat.le_of_ble_eq_true rfl) (by decide) ?_
        refine v_is (y := (-1)) hfe ?_
        refine v_istore (lv2 := [(4, .int (-1)), (5, .int (nI i)), (0, .int (nI bz)), (1, .int (nI gl)), (2, .int st), (3, .int rf)]) dX7_avoids_28 (by decide) rfl ?_
        refine v_iload dX7_avoids_30 0 rfl ?_
        refine v_if_lt (tgt := 44) dX7_avoids_32 (by decide) (fun _ => ?_) (fun h5 => by first | exact absurd h5 (by decide) | exact absurd (by decide) h5)
        refine v_iconst (v := 0) dX7_avoids_44 (by decide) ?_
        exact v_zret hr dX7_avoids_45 (by first | rfl | exact nbq) (psi (bq_f (fun q => hfar q.1)).symm rfl)
      · refine v_iload dX7_avoids_21 1 rfl ?_
        refine v_iload_n dX7_avoids_23 rfl 3 rfl ?_
        refine v_iload_n dX7_avoids_24 rfl 4 rfl ?_
        refine v_callSi (As := [.int (nI (pth (dst st gl) bz i)), .int (nI gl), .int st]) (rest := []) lk_X7_24 (c_X7_firstCell (pth (dst st gl) bz i) gl st (by omega) (by omega)) dX7_avoids_25 rfl rfl (Nat.le_of_ble_eq_true rfl) (by decide) ?_
        refine v_is (y := nI (pth (dst st gl) bz (i + 1))) hfe ?_
        refine v_istore (lv2 := [(4, .int (nI (pth (dst st gl) bz (i + 1)))), (5, .int (nI i)), (0, .int (nI bz)), (1, .int (nI gl)), (2, .int st), (3, .int rf)]) dX7_avoids_28 (by decide) rfl ?_
        refine v_iload dX7_avoids_30 0 rfl ?_
        refine v_if_ltN (a := (pth (dst st gl) bz (i + 1))) (tgt := 44) dX7_avoids_32 (by decide) rfl (by omega) (fun h => by exfalso; omega) (fun h6 => ?_)
        refine v_iload_n dX7_avoids_35 rfl 5 rfl ?_
        refine v_iload dX7_avoids_36 0 rfl ?_
        refine v_ishr dX7_avoids_38 ?_
        refine v_iconst (v := 1) dX7_avoids_39 (by decide) ?_
        refine v_iand dX7_avoids_40 ?_
        refine v_if_eq (tgt := 46) dX7_avoids_41 (by decide) (fun h8 => ?_) (fun h8 => ?_)
        · have hnb : ¬ hb rf (pth (dst st gl) bz (i + 1)) := (hb_z (by omega)).mp h8
          refine v_inc (v := nI (i + 1)) (lv2 := [(5, .int (nI (i + 1))), (4, .int (nI (pth (dst st gl) bz (i + 1)))), (0, .int (nI bz)), (1, .int (nI gl)), (2, .int st), (3, .int rf)]) dX7_avoids_46 1 rfl (nx_inc rfl) (by decide) rfl ?_
          refine v_goto (tgt := 6) dX7_avoids_49 (by decide) ?_
          exact ih (⟨Or.inr ⟨hl9, hil⟩, lt_s hinv.2 hnb⟩)
        · have hyb : hb rf (pth (dst st gl) bz (i + 1)) := Classical.byContradiction (fun q => h8 ((hb_z (by omega)).mpr q))
          refine v_iconst (v := 0) dX7_avoids_44 (by decide) ?_
          exact v_zret hr dX7_avoids_45 (by first | rfl | exact nbq) (psi (bq_f (fun q => q.2 i hil hyb)).symm rfl)
    · have hat := onWy_at hbz hinv.1 h4
      refine v_iconst (v := 1) dX7_avoids_19 (by decide) ?_
      exact v_zret hr dX7_avoids_20 (by first | rfl | exact nbq) (psi (bq_t ⟨by omega, fun k hk => hinv.2 k (by omega)⟩).symm rfl)
set_option maxRecDepth 100000 in
set_option maxHeartbeats 400000 in
theorem c_isFull_2 {g : Gl} {I : Ty} {L : TL} {na nt ni m : Nat} {nl : Nat → Nat}  (kn : Nat) (hkn : I 2 0 = nI kn) (hk8 : kn ≤ 8) (hmo : I 2 1 = nI 5) : Ct g yX5_isFull cX5_isFull 1 (some .boolean) 0 0 0 [.ref (g.1 + 2)] I L (RT na nt ni) (NT nl) (NB + m) (Ps (some (.int (bq (5 ≤ kn)))) (I) L (RT na nt ni) (NT nl) (NB + m)) := by
  refine ct_of (by decide +kernel) (Nat.le_of_ble_eq_true rfl) (fun F hnm hr => ?_)
  clear hnm
  show V g F cX5_isFull RX5 1 0 0 [(0, .ref (g.1 + 2))] [] I L (RT na nt ni) (NT nl) (NB + m) 0 0
  refine v_aload_n dX5_isFull_0 rfl 0 rfl ?_
  refine v_get (v := .int (I 2 0)) fa_X5_17 dX5_isFull_1 rfl (by decide) (ltn rfl) rfl ?_
  refine v_is hkn ?_
  refine v_aload_n dX5_isFull_4 rfl 0 rfl ?_
  refine v_get (v := .int (I 2 1)) fa_X5_7 dX5_isFull_5 rfl (by decide) (ltn rfl) rfl ?_
  refine v_is hmo ?_
  refine v_icmp_ltN (a := kn) (b := 5) (tgt := 15) dX5_isFull_8 (by decide) rfl rfl (by omega) (by omega) (fun h1 => ?_) (fun h1 => ?_)
  · -- kn lt 5
    refine v_iconst (v := 0) dX5_isFull_15 (by decide) ?_
    exact v_zret hr dX5_isFull_16 (by first | rfl | exact nbq) (psi (bq_f (by omega)).symm rfl)
  · -- kn ge 5
    refine v_iconst (v := 1) dX5_isFull_11 (by decide) ?_
    refine v_goto (tgt := 16) dX5_isFull_12 (by decide) ?_
    exact v_zret hr dX5_isFull_16 (by first | rfl | exact nbq) (psi (bq_t (by omega)).symm rfl)
set_option maxRecDepth 100000 in
set_option maxHeartbeats 400000 in
theorem c_empty_2 {g : Gl} {I : Ty} {L : TL} {na nt ni m : Nat} {nl : Nat → Nat}   : Ct g yX5_empty cX5_empty 1 (some .int) 0 0 0 [.ref (g.1 + 2)] I L (RT na nt ni) (NT nl) (NB + m) (Ps (some (.int (0))) (wr I 2 0 0) L (RT na nt ni) (NT nl) (NB + m)) := by
  refine ct_of (by decide +kernel) (Nat.le_of_ble_eq_true rfl) (fun F hnm hr => ?_)
  clear hnm
  show V g F cX5_empty RX5 1 0 0 [(0, .ref (g.1 + 2))] [] I L (RT na nt ni) (NT nl) (NB + m) 0 0
  refine v_aload_n dX5_empty_0 rfl 0 rfl ?_
  refine v_iconst (v := 0) dX5_empty_1 (by decide) ?_
  refine v_puti pa_X5_17 dX5_empty_2 rfl (by decide) (ltn rfl) (by show 0 < 3; decide) rfl ?_
  refine v_iconst (v := 0) dX5_empty_5 (by decide) ?_
  exact v_iret hr dX5_empty_6 (psi (by rfl) (by first | rfl | (simp only [bq, ifc_T, ifc_F, inr_m1, and_true, true_and, and_false, false_and, or_true, true_or, or_false, false_or, not_true_eq_false, not_false_eq_true, and_self, or_self]; done) | (simp [bq, ifc_T, ifc_F, inr_m1]; done) | ((try simp only [bq]); repeat (first | rfl | (refine eq_t ?_ ?_; focus (first | omega | assumption | (simp [inr_m1]; done) | (simp [inr_m1]; omega) | (clear hr; (try clear hkn); simp_all; done))) | (refine eq_f ?_ ?_; focus (first | omega | assumption | (simp [inr_m1]; done) | (simp [inr_m1]; omega) | (clear hr; (try clear hkn); simp_all; done))) | (exfalso; clear hr; (try clear hkn); simp_all; done)))))
set_option maxRecDepth 100000 in
set_option maxHeartbeats 400000 in
theorem c_append_2 {g : Gl} {I : Ty} {L : TL} {na nt ni m : Nat} {nl : Nat → Nat} (az : Int32) (bz : Int32) (cz : Int32) (kn : Nat) (hkn : I 2 0 = nI kn) (hk8 : kn < 5) : Ct g yX5_append cX5_append 5 (some .int) 0 0 0 [.ref (g.1 + 2), .int az, .int bz, .int cz] I L (RT na nt ni) (NT nl) (NB + m) (Ps (some (.int (nI (kn + 1)))) (wr (wr (wr (wr I 3 (3 * kn) az) 3 (3 * kn + 1) bz) 3 (3 * kn + 2) cz) 2 0 (nI (kn + 1))) L (RT na nt ni) (NT nl) (NB + m)) := by
  refine ct_of (by decide +kernel) (Nat.le_of_ble_eq_true rfl) (fun F hnm hr => ?_)
  clear hnm
  show V g F cX5_append RX5 5 0 0 [(0, .ref (g.1 + 2)), (1, .int az), (2, .int bz), (3, .int cz)] [] I L (RT na nt ni) (NT nl) (NB + m) 0 0
  refine v_iconst (v := 3) dX5_append_0 (by decide) ?_
  refine v_aload_n dX5_append_1 rfl 0 rfl ?_
  refine v_get (v := .int (I 2 0)) fa_X5_17 dX5_append_2 rfl (by decide) (ltn rfl) rfl ?_
  refine v_is hkn ?_
  refine v_imul dX5_append_5 ?_
  refine v_is (nx_mul rfl rfl) ?_
  refine v_istore (lv2 := [(4, .int (nI (3 * kn))), (0, .ref (g.1 + 2)), (1, .int az), (2, .int bz), (3, .int cz)]) dX5_append_6 (by decide) rfl ?_
  refine v_aload_n dX5_append_8 rfl 1 rfl ?_
  refine v_get (v := .ref (g.1 + 3)) fa_X5_13 dX5_append_9 rfl (by decide) (ltn rfl) rfl ?_
  refine v_iload dX5_append_12 0 rfl ?_
  refine v_iload_n dX5_append_14 rfl 2 rfl ?_
  refine v_iastore (len := 15) (j := (3 * kn)) dX5_append_15 rfl (ltn rfl) rfl (by decide) rfl (by omega) ?_
  refine v_aload_n dX5_append_16 rfl 1 rfl ?_
  refine v_get (v := .ref (g.1 + 3)) fa_X5_13 dX5_append_17 rfl (by decide) (ltn rfl) rfl ?_
  refine v_iload dX5_append_20 0 rfl ?_
  refine v_iconst (v := 1) dX5_append_22 (by decide) ?_
  refine v_iadd dX5_append_23 ?_
  refine v_is (nx_add rfl rfl) ?_
  refine v_iload_n dX5_append_24 rfl 3 rfl ?_
  refine v_iastore (len := 15) (j := ((3 * kn) + 1)) dX5_append_25 rfl (ltn rfl) rfl (by decide) rfl (by omega) ?_
  refine v_aload_n dX5_append_26 rfl 1 rfl ?_
  refine v_get (v := .ref (g.1 + 3)) fa_X5_13 dX5_append_27 rfl (by decide) (ltn rfl) rfl ?_
  refine v_iload dX5_append_30 0 rfl ?_
  refine v_iconst (v := 2) dX5_append_32 (by decide) ?_
  refine v_iadd dX5_append_33 ?_
  refine v_is (nx_add rfl rfl) ?_
  refine v_iload_n dX5_append_34 rfl 4 rfl ?_
  refine v_iastore (len := 15) (j := ((3 * kn) + 2)) dX5_append_35 rfl (ltn rfl) rfl (by decide) rfl (by omega) ?_
  refine v_aload_n dX5_append_36 rfl 1 rfl ?_
  refine v_dup dX5_append_37 rfl ?_
  refine v_get (v := .int (I 2 0)) fa_X5_17 dX5_append_38 rfl (by decide) (ltn rfl) rfl ?_
  refine v_is hkn ?_
  refine v_iconst (v := 1) dX5_append_41 (by decide) ?_
  refine v_iadd dX5_append_42 ?_
  refine v_is (nx_add rfl rfl) ?_
  refine v_puti pa_X5_17 dX5_append_43 rfl (by decide) (ltn rfl) (by show 0 < 3; decide) rfl ?_
  refine v_aload_n dX5_append_46 rfl 1 rfl ?_
  refine v_get (v := .int (nI (kn + 1))) fa_X5_17 dX5_append_47 rfl (by decide) (ltn rfl) rfl ?_
  exact v_iret hr dX5_append_50 (psi (by rfl) (by first | rfl | (simp only [bq, ifc_T, ifc_F, inr_m1, and_true, true_and, and_false, false_and, or_true, true_or, or_false, false_or, not_true_eq_false, not_false_eq_true, and_self, or_self]; done) | (simp [bq, ifc_T, ifc_F, inr_m1]; done) | ((try simp only [bq]); repeat (first | rfl | (refine eq_t ?_ ?_; focus (first | omega | assumption | (simp [inr_m1]; done) | (simp [inr_m1]; omega) | (clear hr; (try clear hkn); simp_all; done))) | (refine eq_f ?_ ?_; focus (first | omega | assumption | (simp [inr_m1]; done) | (simp [inr_m1]; omega) | (clear hr; (try clear hkn); simp_all; done))) | (exfalso; clear hr; (try clear hkn); simp_all; done)))))
set_option maxRecDepth 100000 in
set_option maxHeartbeats 400000 in
theorem c_first_2 {g : Gl} {I : Ty} {L : TL} {na nt ni m : Nat} {nl : Nat → Nat} (kz : Nat) (hkz : kz < 5) : Ct g yX5_first cX5_first 2 (some .int) 0 0 0 [.ref (g.1 + 2), .int (nI kz)] I L (RT na nt ni) (NT nl) (NB + m) (Ps (some (.int (I 3 (3 * kz)))) (I) L (RT na nt ni) (NT nl) (NB + m)) := by
  refine ct_of (by decide +kernel) (Nat.le_of_ble_eq_true rfl) (fun F hnm hr => ?_)
  clear hnm
  show V g F cX5_first RX5 2 0 0 [(0, .ref (g.1 + 2)), (1, .int (nI kz))] [] I L (RT na nt ni) (NT nl) (NB + m) 0 0
  refine v_aload_n dX5_first_0 rfl 0 rfl ?_
  refine v_get (v := .ref (g.1 + 3)) fa_X5_13 dX5_first_1 rfl (by decide) (ltn rfl) rfl ?_
  refine v_iconst (v := 3) dX5_first_4 (by decide) ?_
  refine v_iload_n dX5_first_5 rfl 1 rfl ?_
  refine v_imul dX5_first_6 ?_
  refine v_is (nx_mul rfl rfl) ?_
  refine v_iaload (len := 15) (j := (3 * kz)) dX5_first_7 rfl (ltn rfl) rfl (by decide) rfl (by omega) ?_
  exact v_iret hr dX5_first_8 (psi (by rfl) rfl)
set_option maxRecDepth 100000 in
set_option maxHeartbeats 400000 in
theorem c_second_2 {g : Gl} {I : Ty} {L : TL} {na nt ni m : Nat} {nl : Nat → Nat} (kz : Nat) (hkz : kz < 5) : Ct g yX5_second cX5_second 2 (some .int) 0 0 0 [.ref (g.1 + 2), .int (nI kz)] I L (RT na nt ni) (NT nl) (NB + m) (Ps (some (.int (I 3 (3 * kz + 1)))) (I) L (RT na nt ni) (NT nl) (NB + m)) := by
  refine ct_of (by decide +kernel) (Nat.le_of_ble_eq_true rfl) (fun F hnm hr => ?_)
  clear hnm
  show V g F cX5_second RX5 2 0 0 [(0, .ref (g.1 + 2)), (1, .int (nI kz))] [] I L (RT na nt ni) (NT nl) (NB + m) 0 0
  refine v_aload_n dX5_second_0 rfl 0 rfl ?_
  refine v_get (v := .ref (g.1 + 3)) fa_X5_13 dX5_second_1 rfl (by decide) (ltn rfl) rfl ?_
  refine v_iconst (v := 3) dX5_second_4 (by decide) ?_
  refine v_iload_n dX5_second_5 rfl 1 rfl ?_
  refine v_imul dX5_second_6 ?_
  refine v_is (nx_mul rfl rfl) ?_
  refine v_iconst (v := 1) dX5_second_7 (by decide) ?_
  refine v_iadd dX5_second_8 ?_
  refine v_is (nx_add rfl rfl) ?_
  refine v_iaload (len := 15) (j := ((3 * kz) + 1)) dX5_second_9 rfl (ltn rfl) rfl (by decide) rfl (by omega) ?_
  exact v_iret hr dX5_second_10 (psi (by rfl) rfl)
set_option maxRecDepth 100000 in
set_option maxHeartbeats 400000 in
theorem c_third_2 {g : Gl} {I : Ty} {L : TL} {na nt ni m : Nat} {nl : Nat → Nat} (kz : Nat) (hkz : kz < 5) : Ct g yX5_third cX5_third 2 (some .int) 0 0 0 [.ref (g.1 + 2), .int (nI kz)] I L (RT na nt ni) (NT nl) (NB + m) (Ps (some (.int (I 3 (3 * kz + 2)))) (I) L (RT na nt ni) (NT nl) (NB + m)) := by
  refine ct_of (by decide +kernel) (Nat.le_of_ble_eq_true rfl) (fun F hnm hr => ?_)
  clear hnm
  show V g F cX5_third RX5 2 0 0 [(0, .ref (g.1 + 2)), (1, .int (nI kz))] [] I L (RT na nt ni) (NT nl) (NB + m) 0 0
  refine v_aload_n dX5_third_0 rfl 0 rfl ?_
  refine v_get (v := .ref (g.1 + 3)) fa_X5_13 dX5_third_1 rfl (by decide) (ltn rfl) rfl ?_
  refine v_iconst (v := 3) dX5_third_4 (by decide) ?_
  refine v_iload_n dX5_third_5 rfl 1 rfl ?_
  refine v_imul dX5_third_6 ?_
  refine v_is (nx_mul rfl rfl) ?_
  refine v_iconst (v := 2) dX5_third_7 (by decide) ?_
  refine v_iadd dX5_third_8 ?_
  refine v_is (nx_add rfl rfl) ?_
  refine v_iaload (len := 15) (j := ((3 * kz) + 2)) dX5_third_9 rfl (ltn rfl) rfl (by decide) rfl (by omega) ?_
  exact v_iret hr dX5_third_10 (psi (by rfl) rfl)
set_option maxRecDepth 100000 in
set_option maxHeartbeats 400000 in
theorem c_isFull_4 {g : Gl} {I : Ty} {L : TL} {na nt ni m : Nat} {nl : Nat → Nat}  (kn : Nat) (hkn : I 4 0 = nI kn) (hk8 : kn ≤ 8) (hmo : I 4 1 = nI 8) : Ct g yX5_isFull cX5_isFull 1 (some .boolean) 0 0 0 [.ref (g.1 + 4)] I L (RT na nt ni) (NT nl) (NB + m) (Ps (some (.int (bq (8 ≤ kn)))) (I) L (RT na nt ni) (NT nl) (NB + m)) := by
  refine ct_of (by decide +kernel) (Nat.le_of_ble_eq_true rfl) (fun F hnm hr => ?_)
  clear hnm
  show V g F cX5_isFull RX5 1 0 0 [(0, .ref (g.1 + 4))] [] I L (RT na nt ni) (NT nl) (NB + m) 0 0
  refine v_aload_n dX5_isFull_0 rfl 0 rfl ?_
  refine v_get (v := .int (I 4 0)) fa_X5_17 dX5_isFull_1 rfl (by decide) (ltn rfl) rfl ?_
  refine v_is hkn ?_
  refine v_aload_n dX5_isFull_4 rfl 0 rfl ?_
  refine v_get (v := .int (I 4 1)) fa_X5_7 dX5_isFull_5 rfl (by decide) (ltn rfl) rfl ?_
  refine v_is hmo ?_
  refine v_icmp_ltN (a := kn) (b := 8) (tgt := 15) dX5_isFull_8 (by decide) rfl rfl (by omega) (by omega) (fun h1 => ?_) (fun h1 => ?_)
  · -- kn lt 8
    refine v_iconst (v := 0) dX5_isFull_15 (by decide) ?_
    exact v_zret hr dX5_isFull_16 (by first | rfl | exact nbq) (psi (bq_f (by omega)).symm rfl)
  · -- kn ge 8
    refine v_iconst (v := 1) dX5_isFull_11 (by decide) ?_
    refine v_goto (tgt := 16) dX5_isFull_12 (by decide) ?_
    exact v_zret hr dX5_isFull_16 (by first | rfl | exact nbq) (psi (bq_t (by omega)).symm rfl)
set_option maxRecDepth 100000 in
set_option maxHeartbeats 400000 in
theorem c_empty_4 {g : Gl} {I : Ty} {L : TL} {na nt ni m : Nat} {nl : Nat → Nat}   : Ct g yX5_empty cX5_empty 1 (some .int) 0 0 0 [.ref (g.1 + 4)] I L (RT na nt ni) (NT nl) (NB + m) (Ps (some (.int (0))) (wr I 4 0 0) L (RT na nt ni) (NT nl) (NB + m)) := by
  refine ct_of (by decide +kernel) (Nat.le_of_ble_eq_true rfl) (fun F hnm hr => ?_)
  clear hnm
  show V g F cX5_empty RX5 1 0 0 [(0, .ref (g.1 + 4))] [] I L (RT na nt ni) (NT nl) (NB + m) 0 0
  refine v_aload_n dX5_empty_0 rfl 0 rfl ?_
  refine v_iconst (v := 0) dX5_empty_1 (by decide) ?_
  refine v_puti pa_X5_17 dX5_empty_2 rfl (by decide) (ltn rfl) (by show 0 < 3; decide) rfl ?_
  refine v_iconst (v := 0) dX5_empty_5 (by decide) ?_
  exact v_iret hr dX5_empty_6 (psi (by rfl) (by first | rfl | (simp only [bq, ifc_T, ifc_F, inr_m1, and_true, true_and, and_false, false_and, or_true, true_or, or_false, false_or, not_true_eq_false, not_false_eq_true, and_self, or_self]; done) | (simp [bq, ifc_T, ifc_F, inr_m1]; done) | ((try simp only [bq]); repeat (first | rfl | (refine eq_t ?_ ?_; focus (first | omega | assumption | (simp [inr_m1]; done) | (simp [inr_m1]; omega) | (clear hr; (try clear hkn); simp_all; done))) | (refine eq_f ?_ ?_; focus (first | omega | assumption | (simp [inr_m1]; done) | (simp [inr_m1]; omega) | (clear hr; (try clear hkn); simp_all; done))) | (exfalso; clear hr; (try clear hkn); simp_all; done)))))
set_option maxRecDepth 100000 in
set_option maxHeartbeats 400000 in
theorem c_append_4 {g : Gl} {I : Ty} {L : TL} {na nt ni m : Nat} {nl : Nat → Nat} (az : Int32) (bz : Int32) (cz : Int32) (kn : Nat) (hkn : I 4 0 = nI kn) (hk8 : kn < 8) : Ct g yX5_append cX5_append 5 (some .int) 0 0 0 [.ref (g.1 + 4), .int az, .int bz, .int cz] I L (RT na nt ni) (NT nl) (NB + m) (Ps (some (.int (nI (kn + 1)))) (wr (wr (wr (wr I 5 (3 * kn) az) 5 (3 * kn + 1) bz) 5 (3 * kn + 2) cz) 4 0 (nI (kn + 1))) L (RT na nt ni) (NT nl) (NB + m)) := by
  refine ct_of (by decide +kernel) (Nat.le_of_ble_eq_true rfl) (fun F hnm hr => ?_)
  clear hnm
  show V g F cX5_append RX5 5 0 0 [(0, .ref (g.1 + 4)), (1, .int az), (2, .int bz), (3, .int cz)] [] I L (RT na nt ni) (NT nl) (NB + m) 0 0
  refine v_iconst (v := 3) dX5_append_0 (by decide) ?_
  refine v_aload_n dX5_append_1 rfl 0 rfl ?_
  refine v_get (v := .int (I 4 0)) fa_X5_17 dX5_append_2 rfl (by decide) (ltn rfl) rfl ?_
  refine v_is hkn ?_
  refine v_imul dX5_append_5 ?_
  refine v_is (nx_mul rfl rfl) ?_
  refine v_istore (lv2 := [(4, .int (nI (3 * kn))), (0, .ref (g.1 + 4)), (1, .int az), (2, .int bz), (3, .int cz)]) dX5_append_6 (by decide) rfl ?_
  refine v_aload_n dX5_append_8 rfl 1 rfl ?_
  refine v_get (v := .ref (g.1 + 5)) fa_X5_13 dX5_append_9 rfl (by decide) (ltn rfl) rfl ?_
  refine v_iload dX5_append_12 0 rfl ?_
  refine v_iload_n dX5_append_14 rfl 2 rfl ?_
  refine v_iastore (len := 24) (j := (3 * kn)) dX5_append_15 rfl (ltn rfl) rfl (by decide) rfl (by omega) ?_
  refine v_aload_n dX5_append_16 rfl 1 rfl ?_
  refine v_get (v := .ref (g.1 + 5)) fa_X5_13 dX5_append_17 rfl (by decide) (ltn rfl) rfl ?_
  refine v_iload dX5_append_20 0 rfl ?_
  refine v_iconst (v := 1) dX5_append_22 (by decide) ?_
  refine v_iadd dX5_append_23 ?_
  refine v_is (nx_add rfl rfl) ?_
  refine v_iload_n dX5_append_24 rfl 3 rfl ?_
  refine v_iastore (len := 24) (j := ((3 * kn) + 1)) dX5_append_25 rfl (ltn rfl) rfl (by decide) rfl (by omega) ?_
  refine v_aload_n dX5_append_26 rfl 1 rfl ?_
  refine v_get (v := .ref (g.1 + 5)) fa_X5_13 dX5_append_27 rfl (by decide) (ltn rfl) rfl ?_
  refine v_iload dX5_append_30 0 rfl ?_
  refine v_iconst (v := 2) dX5_append_32 (by decide) ?_
  refine v_iadd dX5_append_33 ?_
  refine v_is (nx_add rfl rfl) ?_
  refine v_iload_n dX5_append_34 rfl 4 rfl ?_
  refine v_iastore (len := 24) (j := ((3 * kn) + 2)) dX5_append_35 rfl (ltn rfl) rfl (by decide) rfl (by omega) ?_
  refine v_aload_n dX5_append_36 rfl 1 rfl ?_
  refine v_dup dX5_append_37 rfl ?_
  refine v_get (v := .int (I 4 0)) fa_X5_17 dX5_append_38 rfl (by decide) (ltn rfl) rfl ?_
  refine v_is hkn ?_
  refine v_iconst (v := 1) dX5_append_41 (by decide) ?_
  refine v_iadd dX5_append_42 ?_
  refine v_is (nx_add rfl rfl) ?_
  refine v_puti pa_X5_17 dX5_append_43 rfl (by decide) (ltn rfl) (by show 0 < 3; decide) rfl ?_
  refine v_aload_n dX5_append_46 rfl 1 rfl ?_
  refine v_get (v := .int (nI (kn + 1))) fa_X5_17 dX5_append_47 rfl (by decide) (ltn rfl) rfl ?_
  exact v_iret hr dX5_append_50 (psi (by rfl) (by first | rfl | (simp only [bq, ifc_T, ifc_F, inr_m1, and_true, true_and, and_false, false_and, or_true, true_or, or_false, false_or, not_true_eq_false, not_false_eq_true, and_self, or_self]; done) | (simp [bq, ifc_T, ifc_F, inr_m1]; done) | ((try simp only [bq]); repeat (first | rfl | (refine eq_t ?_ ?_; focus (first | omega | assumption | (simp [inr_m1]; done) | (simp [inr_m1]; omega) | (clear hr; (try clear hkn); simp_all; done))) | (refine eq_f ?_ ?_; focus (first | omega | assumption | (simp [inr_m1]; done) | (simp [inr_m1]; omega) | (clear hr; (try clear hkn); simp_all; done))) | (exfalso; clear hr; (try clear hkn); simp_all; done)))))
set_option maxRecDepth 100000 in
set_option maxHeartbeats 400000 in
theorem c_first_4 {g : Gl} {I : Ty} {L : TL} {na nt ni m : Nat} {nl : Nat → Nat} (kz : Nat) (hkz : kz < 8) : Ct g yX5_first cX5_first 2 (some .int) 0 0 0 [.ref (g.1 + 4), .int (nI kz)] I L (RT na nt ni) (NT nl) (NB + m) (Ps (some (.int (I 5 (3 * kz)))) (I) L (RT na nt ni) (NT nl) (NB + m)) := by
  refine ct_of (by decide +kernel) (Nat.le_of_ble_eq_true rfl) (fun F hnm hr => ?_)
  clear hnm
  show V g F cX5_first RX5 2 0 0 [(0, .ref (g.1 + 4)), (1, .int (nI kz))] [] I L (RT na nt ni) (NT nl) (NB + m) 0 0
  refine v_aload_n dX5_first_0 rfl 0 rfl ?_
  refine v_get (v := .ref (g.1 + 5)) fa_X5_13 dX5_first_1 rfl (by decide) (ltn rfl) rfl ?_
  refine v_iconst (v := 3) dX5_first_4 (by decide) ?_
  refine v_iload_n dX5_first_5 rfl 1 rfl ?_
  refine v_imul dX5_first_6 ?_
  refine v_is (nx_mul rfl rfl) ?_
  refine v_iaload (len := 24) (j := (3 * kz)) dX5_first_7 rfl (ltn rfl) rfl (by decide) rfl (by omega) ?_
  exact v_iret hr dX5_first_8 (psi (by rfl) rfl)
set_option maxRecDepth 100000 in
set_option maxHeartbeats 400000 in
theorem c_second_4 {g : Gl} {I : Ty} {L : TL} {na nt ni m : Nat} {nl : Nat → Nat} (kz : Nat) (hkz : kz < 8) : Ct g yX5_second cX5_second 2 (some .int) 0 0 0 [.ref (g.1 + 4), .int (nI kz)] I L (RT na nt ni) (NT nl) (NB + m) (Ps (some (.int (I 5 (3 * kz + 1)))) (I) L (RT na nt ni) (NT nl) (NB + m)) := by
  refine ct_of (by decide +kernel) (Nat.le_of_ble_eq_true rfl) (fun F hnm hr => ?_)
  clear hnm
  show V g F cX5_second RX5 2 0 0 [(0, .ref (g.1 + 4)), (1, .int (nI kz))] [] I L (RT na nt ni) (NT nl) (NB + m) 0 0
  refine v_aload_n dX5_second_0 rfl 0 rfl ?_
  refine v_get (v := .ref (g.1 + 5)) fa_X5_13 dX5_second_1 rfl (by decide) (ltn rfl) rfl ?_
  refine v_iconst (v := 3) dX5_second_4 (by decide) ?_
  refine v_iload_n dX5_second_5 rfl 1 rfl ?_
  refine v_imul dX5_second_6 ?_
  refine v_is (nx_mul rfl rfl) ?_
  refine v_iconst (v := 1) dX5_second_7 (by decide) ?_
  refine v_iadd dX5_second_8 ?_
  refine v_is (nx_add rfl rfl) ?_
  refine v_iaload (len := 24) (j := ((3 * kz) + 1)) dX5_second_9 rfl (ltn rfl) rfl (by decide) rfl (by omega) ?_
  exact v_iret hr dX5_second_10 (psi (by rfl) rfl)
set_option maxRecDepth 100000 in
set_option maxHeartbeats 400000 in
theorem c_third_4 {g : Gl} {I : Ty} {L : TL} {na nt ni m : Nat} {nl : Nat → Nat} (kz : Nat) (hkz : kz < 8) : Ct g yX5_third cX5_third 2 (some .int) 0 0 0 [.ref (g.1 + 4), .int (nI kz)] I L (RT na nt ni) (NT nl) (NB + m) (Ps (some (.int (I 5 (3 * kz + 2)))) (I) L (RT na nt ni) (NT nl) (NB + m)) := by
  refine ct_of (by decide +kernel) (Nat.le_of_ble_eq_true rfl) (fun F hnm hr => ?_)
  clear hnm
  show V g F cX5_third RX5 2 0 0 [(0, .ref (g.1 + 4)), (1, .int (nI kz))] [] I L (RT na nt ni) (NT nl) (NB + m) 0 0
  refine v_aload_n dX5_third_0 rfl 0 rfl ?_
  refine v_get (v := .ref (g.1 + 5)) fa_X5_13 dX5_third_1 rfl (by decide) (ltn rfl) rfl ?_
  refine v_iconst (v := 3) dX5_third_4 (by decide) ?_
  refine v_iload_n dX5_third_5 rfl 1 rfl ?_
  refine v_imul dX5_third_6 ?_
  refine v_is (nx_mul rfl rfl) ?_
  refine v_iconst (v := 2) dX5_third_7 (by decide) ?_
  refine v_iadd dX5_third_8 ?_
  refine v_is (nx_add rfl rfl) ?_
  refine v_iaload (len := 24) (j := ((3 * kz) + 2)) dX5_third_9 rfl (ltn rfl) rfl (by decide) rfl (by omega) ?_
  exact v_iret hr dX5_third_10 (psi (by rfl) rfl)
set_option maxRecDepth 100000 in
set_option maxHeartbeats 400000 in
theorem c_isFull_6 {g : Gl} {I : Ty} {L : TL} {na nt ni m : Nat} {nl : Nat → Nat}  (kn : Nat) (hkn : I 6 0 = nI kn) (hk8 : kn ≤ 8) (hmo : I 6 1 = nI 8) : Ct g yX5_isFull cX5_isFull 1 (some .boolean) 0 0 0 [.ref (g.1 + 6)] I L (RT na nt ni) (NT nl) (NB + m) (Ps (some (.int (bq (8 ≤ kn)))) (I) L (RT na nt ni) (NT nl) (NB + m)) := by
  refine ct_of (by decide +kernel) (Nat.le_of_ble_eq_true rfl) (fun F hnm hr => ?_)
  clear hnm
  show V g F cX5_isFull RX5 1 0 0 [(0, .ref (g.1 + 6))] [] I L (RT na nt ni) (NT nl) (NB + m) 0 0
  refine v_aload_n dX5_isFull_0 rfl 0 rfl ?_
  refine v_get (v := .int (I 6 0)) fa_X5_17 dX5_isFull_1 rfl (by decide) (ltn rfl) rfl ?_
  refine v_is hkn ?_
  refine v_aload_n dX5_isFull_4 rfl 0 rfl ?_
  refine v_get (v := .int (I 6 1)) fa_X5_7 dX5_isFull_5 rfl (by decide) (ltn rfl) rfl ?_
  refine v_is hmo ?_
  refine v_icmp_ltN (a := kn) (b := 8) (tgt := 15) dX5_isFull_8 (by decide) rfl rfl (by omega) (by omega) (fun h1 => ?_) (fun h1 => ?_)
  · -- kn lt 8
    refine v_iconst (v := 0) dX5_isFull_15 (by decide) ?_
    exact v_zret hr dX5_isFull_16 (by first | rfl | exact nbq) (psi (bq_f (by omega)).symm rfl)
  · -- kn ge 8
    refine v_iconst (v := 1) dX5_isFull_11 (by decide) ?_
    refine v_goto (tgt := 16) dX5_isFull_12 (by decide) ?_
    exact v_zret hr dX5_isFull_16 (by first | rfl | exact nbq) (psi (bq_t (by omega)).symm rfl)
set_option maxRecDepth 100000 in
set_option maxHeartbeats 400000 in
theorem c_empty_6 {g : Gl} {I : Ty} {L : TL} {na nt ni m : Nat} {nl : Nat → Nat}   : Ct g yX5_empty cX5_empty 1 (some .int) 0 0 0 [.ref (g.1 + 6)] I L (RT na nt ni) (NT nl) (NB + m) (Ps (some (.int (0))) (wr I 6 0 0) L (RT na nt ni) (NT nl) (NB + m)) := by
  refine ct_of (by decide +kernel) (Nat.le_of_ble_eq_true rfl) (fun F hnm hr => ?_)
  clear hnm
  show V g F cX5_empty RX5 1 0 0 [(0, .ref (g.1 + 6))] [] I L (RT na nt ni) (NT nl) (NB + m) 0 0
  refine v_aload_n dX5_empty_0 rfl 0 rfl ?_
  refine v_iconst (v := 0) dX5_empty_1 (by decide) ?_
  refine v_puti pa_X5_17 dX5_empty_2 rfl (by decide) (ltn rfl) (by show 0 < 3; decide) rfl ?_
  refine v_iconst (v := 0) dX5_empty_5 (by decide) ?_
  exact v_iret hr dX5_empty_6 (psi (by rfl) (by first | rfl | (simp only [bq, ifc_T, ifc_F, inr_m1, and_true, true_and, and_false, false_and, or_true, true_or, or_false, false_or, not_true_eq_false, not_false_eq_true, and_self, or_self]; done) | (simp [bq, ifc_T, ifc_F, inr_m1]; done) | ((try simp only [bq]); repeat (first | rfl | (refine eq_t ?_ ?_; focus (first | omega | assumption | (simp [inr_m1]; done) | (simp [inr_m1]; omega) | (clear hr; (try clear hkn); simp_all; done))) | (refine eq_f ?_ ?_; focus (first | omega | assumption | (simp [inr_m1]; done) | (simp [inr_m1]; omega) | (clear hr; (try clear hkn); simp_all; done))) | (exfalso; clear hr; (try clear hkn); simp_all; done)))))
set_option maxRecDepth 100000 in
set_option maxHeartbeats 400000 in
theorem c_append_6 {g : Gl} {I : Ty} {L : TL} {na nt ni m : Nat} {nl : Nat → Nat} (az : Int32) (bz : Int32) (cz : Int32) (kn : Nat) (hkn : I 6 0 = nI kn) (hk8 : kn < 8) : Ct g yX5_append cX5_append 5 (some .int) 0 0 0 [.ref (g.1 + 6), .int az, .int bz, .int cz] I L (RT na nt ni) (NT nl) (NB + m) (Ps (some (.int (nI (kn + 1)))) (wr (wr (wr (wr I 7 (3 * kn) az) 7 (3 * kn + 1) bz) 7 (3 * kn + 2) cz) 6 0 (nI (kn + 1))) L (RT na nt ni) (NT nl) (NB + m)) := by
  refine ct_of (by decide +kernel) (Nat.le_of_ble_eq_true rfl) (fun F hnm hr => ?_)
  clear hnm
  show V g F cX5_append RX5 5 0 0 [(0, .ref (g.1 + 6)), (1, .int az), (2, .int bz), (3, .int cz)] [] I L (RT na nt ni) (NT nl) (NB + m) 0 0
  refine v_iconst (v := 3) dX5_append_0 (by decide) ?_
  refine v_aload_n dX5_append_1 rfl 0 rfl ?_
  refine v_get (v := .int (I 6 0)) fa_X5_17 dX5_append_2 rfl (by decide) (ltn rfl) rfl ?_
  refine v_is hkn ?_
  refine v_imul dX5_append_5 ?_
  refine v_is (nx_mul rfl rfl) ?_
  refine v_istore (lv2 := [(4, .int (nI (3 * kn))), (0, .ref (g.1 + 6)), (1, .int az), (2, .int bz), (3, .int cz)]) dX5_append_6 (by decide) rfl ?_
  refine v_aload_n dX5_append_8 rfl 1 rfl ?_
  refine v_get (v := .ref (g.1 + 7)) fa_X5_13 dX5_append_9 rfl (by decide) (ltn rfl) rfl ?_
  refine v_iload dX5_append_12 0 rfl ?_
  refine v_iload_n dX5_append_14 rfl 2 rfl ?_
  refine v_iastore (len := 24) (j := (3 * kn)) dX5_append_15 rfl (ltn rfl) rfl (by decide) rfl (by omega) ?_
  refine v_aload_n dX5_append_16 rfl 1 rfl ?_
  refine v_get (v := .ref (g.1 + 7)) fa_X5_13 dX5_append_17 rfl (by decide) (ltn rfl) rfl ?_
  refine v_iload dX5_append_20 0 rfl ?_
  refine v_iconst (v := 1) dX5_append_22 (by decide) ?_
  refine v_iadd dX5_append_23 ?_
  refine v_is (nx_add rfl rfl) ?_
  refine v_iload_n dX5_append_24 rfl 3 rfl ?_
  refine v_iastore (len := 24) (j := ((3 * kn) + 1)) dX5_append_25 rfl (ltn rfl) rfl (by decide) rfl (by omega) ?_
  refine v_aload_n dX5_append_26 rfl 1 rfl ?_
  refine v_get (v := .ref (g.1 + 7)) fa_X5_13 dX5_append_27 rfl (by decide) (ltn rfl) rfl ?_
  refine v_iload dX5_append_30 0 rfl ?_
  refine v_iconst (v := 2) dX5_append_32 (by decide) ?_
  refine v_iadd dX5_append_33 ?_
  refine v_is (nx_add rfl rfl) ?_
  refine v_iload_n dX5_append_34 rfl 4 rfl ?_
  refine v_iastore (len := 24) (j := ((3 * kn) + 2)) dX5_append_35 rfl (ltn rfl) rfl (by decide) rfl (by omega) ?_
  refine v_aload_n dX5_append_36 rfl 1 rfl ?_
  refine v_dup dX5_append_37 rfl ?_
  refine v_get (v := .int (I 6 0)) fa_X5_17 dX5_append_38 rfl (by decide) (ltn rfl) rfl ?_
  refine v_is hkn ?_
  refine v_iconst (v := 1) dX5_append_41 (by decide) ?_
  refine v_iadd dX5_append_42 ?_
  refine v_is (nx_add rfl rfl) ?_
  refine v_puti pa_X5_17 dX5_append_43 rfl (by decide) (ltn rfl) (by show 0 < 3; decide) rfl ?_
  refine v_aload_n dX5_append_46 rfl 1 rfl ?_
  refine v_get (v := .int (nI (kn + 1))) fa_X5_17 dX5_append_47 rfl (by decide) (ltn rfl) rfl ?_
  exact v_iret hr dX5_append_50 (psi (by rfl) (by first | rfl | (simp only [bq, ifc_T, ifc_F, inr_m1, and_true, true_and, and_false, false_and, or_true, true_or, or_false, false_or, not_true_eq_false, not_false_eq_true, and_self, or_self]; done) | (simp [bq, ifc_T, ifc_F, inr_m1]; done) | ((try simp only [bq]); repeat (first | rfl | (refine eq_t ?_ ?_; focus (first | omega | assumption | (simp [inr_m1]; done) | (simp [inr_m1]; omega) | (clear hr; (try clear hkn); simp_all; done))) | (refine eq_f ?_ ?_; focus (first | omega | assumption | (simp [inr_m1]; done) | (simp [inr_m1]; omega) | (clear hr; (try clear hkn); simp_all; done))) | (exfalso; clear hr; (try clear hkn); simp_all; done)))))
set_option maxRecDepth 100000 in
set_option maxHeartbeats 400000 in
theorem c_first_6 {g : Gl} {I : Ty} {L : TL} {na nt ni m : Nat} {nl : Nat → Nat} (kz : Nat) (hkz : kz < 8) : Ct g yX5_first cX5_first 2 (some .int) 0 0 0 [.ref (g.1 + 6), .int (nI kz)] I L (RT na nt ni) (NT nl) (NB + m) (Ps (some (.int (I 7 (3 * kz)))) (I) L (RT na nt ni) (NT nl) (NB + m)) := by
  refine ct_of (by decide +kernel) (Nat.le_of_ble_eq_true rfl) (fun F hnm hr => ?_)
  clear hnm
  show V g F cX5_first RX5 2 0 0 [(0, .ref (g.1 + 6)), (1, .int (nI kz))] [] I L (RT na nt ni) (NT nl) (NB + m) 0 0
  refine v_aload_n dX5_first_0 rfl 0 rfl ?_
  refine v_get (v := .ref (g.1 + 7)) fa_X5_13 dX5_first_1 rfl (by decide) (ltn rfl) rfl ?_
  refine v_iconst (v := 3) dX5_first_4 (by decide) ?_
  refine v_iload_n dX5_first_5 rfl 1 rfl ?_
  refine v_imul dX5_first_6 ?_
  refine v_is (nx_mul rfl rfl) ?_
  refine v_iaload (len := 24) (j := (3 * kz)) dX5_first_7 rfl (ltn rfl) rfl (by decide) rfl (by omega) ?_
  exact v_iret hr dX5_first_8 (psi (by rfl) rfl)
set_option maxRecDepth 100000 in
set_option maxHeartbeats 400000 in
theorem c_second_6 {g : Gl} {I : Ty} {L : TL} {na nt ni m : Nat} {nl : Nat → Nat} (kz : Nat) (hkz : kz < 8) : Ct g yX5_second cX5_second 2 (some .int) 0 0 0 [.ref (g.1 + 6), .int (nI kz)] I L (RT na nt ni) (NT nl) (NB + m) (Ps (some (.int (I 7 (3 * kz + 1)))) (I) L (RT na nt ni) (NT nl) (NB + m)) := by
  refine ct_of (by decide +kernel) (Nat.le_of_ble_eq_true rfl) (fun F hnm hr => ?_)
  clear hnm
  show V g F cX5_second RX5 2 0 0 [(0, .ref (g.1 + 6)), (1, .int (nI kz))] [] I L (RT na nt ni) (NT nl) (NB + m) 0 0
  refine v_aload_n dX5_second_0 rfl 0 rfl ?_
  refine v_get (v := .ref (g.1 + 7)) fa_X5_13 dX5_second_1 rfl (by decide) (ltn rfl) rfl ?_
  refine v_iconst (v := 3) dX5_second_4 (by decide) ?_
  refine v_iload_n dX5_second_5 rfl 1 rfl ?_
  refine v_imul dX5_second_6 ?_
  refine v_is (nx_mul rfl rfl) ?_
  refine v_iconst (v := 1) dX5_second_7 (by decide) ?_
  refine v_iadd dX5_second_8 ?_
  refine v_is (nx_add rfl rfl) ?_
  refine v_iaload (len := 24) (j := ((3 * kz) + 1)) dX5_second_9 rfl (ltn rfl) rfl (by decide) rfl (by omega) ?_
  exact v_iret hr dX5_second_10 (psi (by rfl) rfl)
set_option maxRecDepth 100000 in
set_option maxHeartbeats 400000 in
theorem c_third_6 {g : Gl} {I : Ty} {L : TL} {na nt ni m : Nat} {nl : Nat → Nat} (kz : Nat) (hkz : kz < 8) : Ct g yX5_third cX5_third 2 (some .int) 0 0 0 [.ref (g.1 + 6), .int (nI kz)] I L (RT na nt ni) (NT nl) (NB + m) (Ps (some (.int (I 7 (3 * kz + 2)))) (I) L (RT na nt ni) (NT nl) (NB + m)) := by
  refine ct_of (by decide +kernel) (Nat.le_of_ble_eq_true rfl) (fun F hnm hr => ?_)
  clear hnm
  show V g F cX5_third RX5 2 0 0 [(0, .ref (g.1 + 6)), (1, .int (nI kz))] [] I L (RT na nt ni) (NT nl) (NB + m) 0 0
  refine v_aload_n dX5_third_0 rfl 0 rfl ?_
  refine v_get (v := .ref (g.1 + 7)) fa_X5_13 dX5_third_1 rfl (by decide) (ltn rfl) rfl ?_
  refine v_iconst (v := 3) dX5_third_4 (by decide) ?_
  refine v_iload_n dX5_third_5 rfl 1 rfl ?_
  refine v_imul dX5_third_6 ?_
  refine v_is (nx_mul rfl rfl) ?_
  refine v_iconst (v := 2) dX5_third_7 (by decide) ?_
  refine v_iadd dX5_third_8 ?_
  refine v_is (nx_add rfl rfl) ?_
  refine v_iaload (len := 24) (j := ((3 * kz) + 2)) dX5_third_9 rfl (ltn rfl) rfl (by decide) rfl (by omega) ?_
  exact v_iret hr dX5_third_10 (psi (by rfl) rfl)
