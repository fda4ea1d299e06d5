set_option maxRecDepth 100000 in
set_option maxHeartbeats 400000 in
theorem c_X9_feed {g : Gl} {I : Ty} {L : TL} {na nt ni m : Nat} {nl : Nat → Nat} (s : Int32) (fd : Nat) (hfd : fd ≤ 100) (hfe : I 65 12 = nI fd) : Ct g yX9_feed cX9_feed 2 (some .int) 3 0 0 [.ref (g.1 + 65), .int s] I L (RT na nt ni) (NT nl) (NB + m) (Ps (some (.int (ifc (inr s 128) (ifc (fd = 100) (-4) (nI (fd + 1))) (-2)))) (ifc (inr s 128 ∧ fd ≠ 100) (wr (wr I 74 fd s) 65 12 (nI (fd + 1))) I) L (RT na nt ni) (NT nl) (NB + m)) := by
  refine ct_of (by decide +kernel) (Nat.le_of_ble_eq_true rfl) (fun F hnm hr => ?_)
  clear hnm
  show V g F cX9_feed RX9 2 3 0 [(0, .ref (g.1 + 65)), (1, .int s)] [] I L (RT na nt ni) (NT nl) (NB + m) 0 0
  refine v_aload_n dX9_feed_0 rfl 0 rfl ?_
  refine v_iload_n dX9_feed_1 rfl 1 rfl ?_
  refine v_iconst (v := 0) dX9_feed_2 (by decide) ?_
  refine v_bipush (v := 127) dX9_feed_3 (by decide) ?_
  refine v_callVi (As := [.int s, .int 0, .int 127]) (rest := []) lk_X9_237 (c_in0 s 127 (by decide)) dX9_feed_5 rfl (ltn rfl) rfl rfl (Nat.le_of_ble_eq_true rfl) (by decide) ?_
  refine v_ifb_ne (tgt := 14) dX9_feed_8 (by decide) (fun h1 => ?_) (fun h1 => ?_)
  · -- inr s 128
    obtain ⟨P2, rfl, l3, t4, u5⟩ := inr_ex h1 (by omega)
    refine v_aload_n dX9_feed_14 rfl 0 rfl ?_
    refine v_get (v := .int (I 65 12)) fa_X9_47 dX9_feed_15 rfl (by decide) (ltn rfl) rfl ?_
    refine v_is hfe ?_
    refine v_bipush (v := 100) dX9_feed_18 (by decide) ?_
    refine v_icmp_neN (a := fd) (b := 100) (tgt := 26) dX9_feed_20 (by decide) rfl rfl (by omega) (by omega) (fun h6 => ?_) (fun h6 => ?_)
    · -- fd ne 100
      refine v_aload_n dX9_feed_26 rfl 0 rfl ?_
      refine v_get (v := .ref (g.1 + 74)) fa_X9_56 dX9_feed_27 rfl (by decide) (ltn rfl) rfl ?_
      refine v_aload_n dX9_feed_30 rfl 0 rfl ?_
      refine v_get (v := .int (I 65 12)) fa_X9_47 dX9_feed_31 rfl (by decide) (ltn rfl) rfl ?_
      refine v_is hfe ?_
      refine v_iload_n dX9_feed_34 rfl 1 rfl ?_
      refine v_iastore (len := 100) (j := fd) dX9_feed_35 rfl (ltn rfl) rfl (by decide) rfl (by omega) ?_
      refine v_aload_n dX9_feed_36 rfl 0 rfl ?_
      refine v_dup dX9_feed_37 rfl ?_
      refine v_get (v := .int (I 65 12)) fa_X9_47 dX9_feed_38 rfl (by decide) (ltn rfl) rfl ?_
      refine v_is hfe ?_
      refine v_iconst (v := 1) dX9_feed_41 (by decide) ?_
      refine v_iadd dX9_feed_42 ?_
      refine v_is (nx_add rfl rfl) ?_
      refine v_puti pa_X9_47 dX9_feed_43 rfl (by decide) (ltn rfl) (by show 12 < 73; decide) rfl ?_
      refine v_aload_n dX9_feed_46 rfl 0 rfl ?_
      refine v_get (v := .int (nI (fd + 1))) fa_X9_47 dX9_feed_47 rfl (by decide) (ltn rfl) rfl ?_
      exact v_iret hr dX9_feed_50 (psi (by first | rfl | (simp only [bq, ifc_T, ifc_F, inr_m1, and_true, true_and, and_false, false_and, or_true, true_or, or_false, false_or, not_true_eq_false, not_false_eq_true, and_self, or_self, h1, t4, u5, l3, h6]; done) | (simp [bq, ifc_T, ifc_F, inr_m1, h1, t4, u5, l3, h6]; done) | ((try simp only [bq]); repeat (first | rfl | (refine eq_t ?_ ?_; focus (first | omega | assumption | (simp [inr_m1, h1, t4, u5, l3, h6]; done) | (simp [inr_m1, h1, t4, u5, l3, h6]; omega) | (simp only [u5]; omega) | (clear hr; (try clear hkn); simp_all; done))) | (refine eq_f ?_ ?_; focus (first | omega | assumption | (simp [inr_m1, h1, t4, u5, l3, h6]; done) | (simp [inr_m1, h1, t4, u5, l3, h6]; omega) | (simp only [u5]; omega) | (clear hr; (try clear hkn); simp_all; done))) | (simp only [t4]; done) | (exfalso; clear hr; (try clear hkn); simp_all; done)))) (by first | rfl | (simp only [bq, ifc_T, ifc_F, inr_m1, and_true, true_and, and_false, false_and, or_true, true_or, or_false, false_or, not_true_eq_false, not_false_eq_true, and_self, or_self, h1, t4, u5, l3, h6]; done) | (simp [bq, ifc_T, ifc_F, inr_m1, h1, t4, u5, l3, h6]; done) | ((try simp only [bq]); repeat (first | rfl | (refine eq_t ?_ ?_; focus (first | omega | assumption | (simp [inr_m1, h1, t4, u5, l3, h6]; done) | (simp [inr_m1, h1, t4, u5, l3, h6]; omega) | (simp only [u5]; omega) | (clear hr; (try clear hkn); simp_all; done))) | (refine eq_f ?_ ?_; focus (first | omega | assumption | (simp [inr_m1, h1, t4, u5, l3, h6]; done) | (simp [inr_m1, h1, t4, u5, l3, h6]; omega) | (simp only [u5]; omega) | (clear hr; (try clear hkn); simp_all; done))) | (simp only [t4]; done) | (exfalso; clear hr; (try clear hkn); simp_all; done)))))
    · -- fd eq 100
      refine v_bipush (v := (-4)) dX9_feed_23 (by decide) ?_
      exact v_iret hr dX9_feed_25 (psi (by first | rfl | (simp only [bq, ifc_T, ifc_F, inr_m1, and_true, true_and, and_false, false_and, or_true, true_or, or_false, false_or, not_true_eq_false, not_false_eq_true, and_self, or_self, h1, t4, u5, l3, h6]; done) | (simp [bq, ifc_T, ifc_F, inr_m1, h1, t4, u5, l3, h6]; done) | ((try simp only [bq]); repeat (first | rfl | (refine eq_t ?_ ?_; focus (first | omega | assumption | (simp [inr_m1, h1, t4, u5, l3, h6]; done) | (simp [inr_m1, h1, t4, u5, l3, h6]; omega) | (simp only [u5]; omega) | (clear hr; (try clear hkn); simp_all; done))) | (refine eq_f ?_ ?_; focus (first | omega | assumption | (simp [inr_m1, h1, t4, u5, l3, h6]; done) | (simp [inr_m1, h1, t4, u5, l3, h6]; omega) | (simp only [u5]; omega) | (clear hr; (try clear hkn); simp_all; done))) | (simp only [t4]; done) | (exfalso; clear hr; (try clear hkn); simp_all; done)))) (by first | rfl | (simp only [bq, ifc_T, ifc_F, inr_m1, and_true, true_and, and_false, false_and, or_true, true_or, or_false, false_or, not_true_eq_false, not_false_eq_true, and_self, or_self, h1, t4, u5, l3, h6]; done) | (simp [bq, ifc_T, ifc_F, inr_m1, h1, t4, u5, l3, h6]; done) | ((try simp only [bq]); repeat (first | rfl | (refine eq_t ?_ ?_; focus (first | omega | assumption | (simp [inr_m1, h1, t4, u5, l3, h6]; done) | (simp [inr_m1, h1, t4, u5, l3, h6]; omega) | (simp only [u5]; omega) | (clear hr; (try clear hkn); simp_all; done))) | (refine eq_f ?_ ?_; focus (first | omega | assumption | (simp [inr_m1, h1, t4, u5, l3, h6]; done) | (simp [inr_m1, h1, t4, u5, l3, h6]; omega) | (simp only [u5]; omega) | (clear hr; (try clear hkn); simp_all; done))) | (simp only [t4]; done) | (exfalso; clear hr; (try clear hkn); simp_all; done)))))
  · -- not inr s 128
    refine v_bipush (v := (-2)) dX9_feed_11 (by decide) ?_
    exact v_iret hr dX9_feed_13 (psi (by first | rfl | (simp only [bq, ifc_T, ifc_F, inr_m1, and_true, true_and, and_false, false_and, or_true, true_or, or_false, false_or, not_true_eq_false, not_false_eq_true, and_self, or_self, h1]; done) | (simp [bq, ifc_T, ifc_F, inr_m1, h1]; done) | ((try simp only [bq]); repeat (first | rfl | (refine eq_t ?_ ?_; focus (first | omega | assumption | (simp [inr_m1, h1]; done) | (simp [inr_m1, h1]; omega) | (clear hr; (try clear hkn); simp_all; done))) | (refine eq_f ?_ ?_; focus (first | omega | assumption | (simp [inr_m1, h1]; done) | (simp [inr_m1, h1]; omega) | (clear hr; (try clear hkn); simp_all; done))) | (exfalso; clear hr; (try clear hkn); simp_all; done)))) (by first | rfl | (simp only [bq, ifc_T, ifc_F, inr_m1, and_true, true_and, and_false, false_and, or_true, true_or, or_false, false_or, not_true_eq_false, not_false_eq_true, and_self, or_self, h1]; done) | (simp [bq, ifc_T, ifc_F, inr_m1, h1]; done) | ((try simp only [bq]); repeat (first | rfl | (refine eq_t ?_ ?_; focus (first | omega | assumption | (simp [inr_m1, h1]; done) | (simp [inr_m1, h1]; omega) | (clear hr; (try clear hkn); simp_all; done))) | (refine eq_f ?_ ?_; focus (first | omega | assumption | (simp [inr_m1, h1]; done) | (simp [inr_m1, h1]; omega) | (clear hr; (try clear hkn); simp_all; done))) | (exfalso; clear hr; (try clear hkn); simp_all; done)))))
theorem tn_m1 : tn (-1) = 0 := rfl
set_option maxRecDepth 100000 in
set_option maxHeartbeats 400000 in
theorem c_begN {g : Gl} {I : Ty} {L : TL} {na nt ni m : Nat} {nl : Nat → Nat}  (tk : Nat) (htk : tk < 6) (hte : I 65 11 = nI tk) : Ct g yX9_begin cX9_begin 1 (some .int) 0 0 0 [.ref (g.1 + 65)] I L (RT na nt ni) (NT nl) (NB + m) (Ps (some (.int (nI (10 * tk)))) (I) L (RT na nt ni) (NT nl) (NB + m)) := by
  refine ct_of (by decide +kernel) (Nat.le_of_ble_eq_true rfl) (fun F hnm hr => ?_)
  clear hnm
  show V g F cX9_begin RX9 1 0 0 [(0, .ref (g.1 + 65))] [] I L (RT na nt ni) (NT nl) (NB + m) 0 0
  refine v_aload_n dX9_begin_0 rfl 0 rfl ?_
  refine v_get (v := .int (I 65 11)) fa_X9_44 dX9_begin_1 rfl (by decide) (ltn rfl) rfl ?_
  refine v_is hte ?_
  refine v_if_geN (a := tk) (tgt := 11) dX9_begin_4 (by decide) rfl (by omega) (fun h1 => ?_) (fun h => by exfalso; omega)
  refine v_bipush (v := 10) dX9_begin_11 (by decide) ?_
  refine v_aload_n dX9_begin_13 rfl 0 rfl ?_
  refine v_get (v := .int (I 65 11)) fa_X9_44 dX9_begin_14 rfl (by decide) (ltn rfl) rfl ?_
  refine v_is hte ?_
  refine v_imul dX9_begin_17 ?_
  refine v_is (nx_mul rfl rfl) ?_
  exact v_iret hr dX9_begin_18 (psi (by rfl) rfl)
set_option maxRecDepth 100000 in
set_option maxHeartbeats 400000 in
theorem c_begZ {g : Gl} {I : Ty} {L : TL} {na nt ni m : Nat} {nl : Nat → Nat}  (hte : I 65 11 = -1) : Ct g yX9_begin cX9_begin 1 (some .int) 0 0 0 [.ref (g.1 + 65)] I L (RT na nt ni) (NT nl) (NB + m) (Ps (some (.int (0))) (I) L (RT na nt ni) (NT nl) (NB + m)) := by
  refine ct_of (by decide +kernel) (Nat.le_of_ble_eq_true rfl) (fun F hnm hr => ?_)
  clear hnm
  show V g F cX9_begin RX9 1 0 0 [(0, .ref (g.1 + 65))] [] I L (RT na nt ni) (NT nl) (NB + m) 0 0
  refine v_aload_n dX9_begin_0 rfl 0 rfl ?_
  refine v_get (v := .int (I 65 11)) fa_X9_44 dX9_begin_1 rfl (by decide) (ltn rfl) rfl ?_
  refine v_is hte ?_
  refine v_if_ge (tgt := 11) dX9_begin_4 (by decide) (fun h1 => by first | exact absurd h1 (by decide) | exact absurd (by decide) h1) (fun _ => ?_)
  refine v_iconst (v := 0) dX9_begin_7 (by decide) ?_
  refine v_goto (tgt := 18) dX9_begin_8 (by decide) ?_
  exact v_iret hr dX9_begin_18 (psi (by rfl) rfl)
set_option maxRecDepth 100000 in
set_option maxHeartbeats 400000 in
theorem c_behN {g : Gl} {I : Ty} {L : TL} {na nt ni m : Nat} {nl : Nat → Nat}  (tk ck : Nat) (htk : tk < 6) (hte : I 65 11 = nI tk) (hck : ck ≤ 10) (hce : I 75 tk = nI ck) : Ct g yX9_behind cX9_behind 1 (some .int) 0 0 0 [.ref (g.1 + 65)] I L (RT na nt ni) (NT nl) (NB + m) (Ps (some (.int (nI (10 * tk + ck)))) (I) L (RT na nt ni) (NT nl) (NB + m)) := by
  refine ct_of (by decide +kernel) (Nat.le_of_ble_eq_true rfl) (fun F hnm hr => ?_)
  clear hnm
  show V g F cX9_behind RX9 1 0 0 [(0, .ref (g.1 + 65))] [] I L (RT na nt ni) (NT nl) (NB + m) 0 0
  refine v_aload_n dX9_behind_0 rfl 0 rfl ?_
  refine v_get (v := .int (I 65 11)) fa_X9_44 dX9_behind_1 rfl (by decide) (ltn rfl) rfl ?_
  refine v_is hte ?_
  refine v_if_geN (a := tk) (tgt := 11) dX9_behind_4 (by decide) rfl (by omega) (fun h1 => ?_) (fun h => by exfalso; omega)
  refine v_bipush (v := 10) dX9_behind_11 (by decide) ?_
  refine v_aload_n dX9_behind_13 rfl 0 rfl ?_
  refine v_get (v := .int (I 65 11)) fa_X9_44 dX9_behind_14 rfl (by decide) (ltn rfl) rfl ?_
  refine v_is hte ?_
  refine v_imul dX9_behind_17 ?_
  refine v_is (nx_mul rfl rfl) ?_
  refine v_aload_n dX9_behind_18 rfl 0 rfl ?_
  refine v_get (v := .ref (g.1 + 75)) fa_X9_59 dX9_behind_19 rfl (by decide) (ltn rfl) rfl ?_
  refine v_aload_n dX9_behind_22 rfl 0 rfl ?_
  refine v_get (v := .int (I 65 11)) fa_X9_44 dX9_behind_23 rfl (by decide) (ltn rfl) rfl ?_
  refine v_is hte ?_
  refine v_iaload (len := 6) (j := tk) dX9_behind_26 rfl (ltn rfl) rfl (by decide) rfl (by omega) ?_
  refine v_is hce ?_
  refine v_iadd dX9_behind_27 ?_
  refine v_is (nx_add rfl rfl) ?_
  exact v_iret hr dX9_behind_28 (psi (by rfl) rfl)
set_option maxRecDepth 100000 in
set_option maxHeartbeats 400000 in
theorem c_behZ {g : Gl} {I : Ty} {L : TL} {na nt ni m : Nat} {nl : Nat → Nat}  (hte : I 65 11 = -1) : Ct g yX9_behind cX9_behind 1 (some .int) 0 0 0 [.ref (g.1 + 65)] I L (RT na nt ni) (NT nl) (NB + m) (Ps (some (.int (0))) (I) L (RT na nt ni) (NT nl) (NB + m)) := by
  refine ct_of (by decide +kernel) (Nat.le_of_ble_eq_true rfl) (fun F hnm hr => ?_)
  clear hnm
  show V g F cX9_behind RX9 1 0 0 [(0, .ref (g.1 + 65))] [] I L (RT na nt ni) (NT nl) (NB + m) 0 0
  refine v_aload_n dX9_behind_0 rfl 0 rfl ?_
  refine v_get (v := .int (I 65 11)) fa_X9_44 dX9_behind_1 rfl (by decide) (ltn rfl) rfl ?_
  refine v_is hte ?_
  refine v_if_ge (tgt := 11) dX9_behind_4 (by decide) (fun h1 => by first | exact absurd h1 (by decide) | exact absurd (by decide) h1) (fun _ => ?_)
  refine v_iconst (v := 0) dX9_behind_7 (by decide) ?_
  refine v_goto (tgt := 28) dX9_behind_8 (by decide) ?_
  exact v_iret hr dX9_behind_28 (psi (by rfl) rfl)
set_option maxRecDepth 100000 in
set_option maxHeartbeats 400000 in
theorem c_X9_trace {g : Gl} {I : Ty} {L : TL} {na nt ni m : Nat} {nl : Nat → Nat} (i : Int32) (rn : Nat) (hrn : rn < 1000) (hre : I 65 67 = nI rn) : Ct g yX9_trace cX9_trace 2 (some .int) 3 0 0 [.ref (g.1 + 65), .int i] I L (RT na nt ni) (NT nl) (NB + m) (Ps (some (.int (ifc (inr i 20 ∧ inr i rn) (I 111 (tn i)) (-1)))) (I) L (RT na nt ni) (NT nl) (NB + m)) := by
  refine ct_of (by decide +kernel) (Nat.le_of_ble_eq_true rfl) (fun F hnm hr => ?_)
  clear hnm
  show V g F cX9_trace RX9 2 3 0 [(0, .ref (g.1 + 65)), (1, .int i)] [] I L (RT na nt ni) (NT nl) (NB + m) 0 0
  refine v_aload_n dX9_trace_0 rfl 0 rfl ?_
  refine v_iload_n dX9_trace_1 rfl 1 rfl ?_
  refine v_iconst (v := 0) dX9_trace_2 (by decide) ?_
  refine v_bipush (v := 19) dX9_trace_3 (by decide) ?_
  refine v_callVi (As := [.int i, .int 0, .int 19]) (rest := []) lk_X9_237 (c_in0 i 19 (by decide)) dX9_trace_5 rfl (ltn rfl) rfl rfl (Nat.le_of_ble_eq_true rfl) (by decide) ?_
  refine v_ifb_eq (tgt := 28) dX9_trace_8 (by decide) (fun h1 => ?_) (fun h1 => ?_)
  · -- not inr i 20
    refine v_iconst (v := (-1)) dX9_trace_28 (by decide) ?_
    exact v_iret hr dX9_trace_29 (psi (by first | rfl | (simp only [bq, ifc_T, ifc_F, inr_m1, and_true, true_and, and_false, false_and, or_true, true_or, or_false, false_or, not_true_eq_false, not_false_eq_true, and_self, or_self, h1]; done) | (simp [bq, ifc_T, ifc_F, inr_m1, h1]; done) | ((try simp only [bq]); repeat (first | rfl | (refine eq_t ?_ ?_; focus (first | omega | assumption | (simp [inr_m1, h1]; done) | (simp [inr_m1, h1]; omega) | (clear hr; (try clear hkn); simp_all; done))) | (refine eq_f ?_ ?_; focus (first | omega | assumption | (simp [inr_m1, h1]; done) | (simp [inr_m1, h1]; omega) | (clear hr; (try clear hkn); simp_all; done))) | (exfalso; clear hr; (try clear hkn); simp_all; done)))) rfl)
  · -- inr i 20
    obtain ⟨P2, rfl, l3, t4, u5⟩ := inr_ex h1 (by omega)
    refine v_iload_n dX9_trace_11 rfl 1 rfl ?_
    refine v_aload_n dX9_trace_12 rfl 0 rfl ?_
    refine v_get (v := .int (I 65 67)) fa_X9_214 dX9_trace_13 rfl (by decide) (ltn rfl) rfl ?_
    refine v_is hre ?_
    refine v_icmp_geN (a := P2) (b := rn) (tgt := 28) dX9_trace_16 (by decide) rfl rfl (by omega) (by omega) (fun h6 => ?_) (fun h6 => ?_)
    · -- P2 ge rn
      refine v_iconst (v := (-1)) dX9_trace_28 (by decide) ?_
      exact v_iret hr dX9_trace_29 (psi (by first | rfl | (simp only [bq, ifc_T, ifc_F, inr_m1, and_true, true_and, and_false, false_and, or_true, true_or, or_false, false_or, not_true_eq_false, not_false_eq_true, and_self, or_self, h1, t4, u5, l3, h6]; done) | (simp [bq, ifc_T, ifc_F, inr_m1, h1, t4, u5, l3, h6]; done) | ((try simp only [bq]); repeat (first | rfl | (refine eq_t ?_ ?_; focus (first | omega | assumption | (simp [inr_m1, h1, t4, u5, l3, h6]; done) | (simp [inr_m1, h1, t4, u5, l3, h6]; omega) | (simp only [u5]; omega) | (clear hr; (try clear hkn); simp_all; done))) | (refine eq_f ?_ ?_; focus (first | omega | assumption | (simp [inr_m1, h1, t4, u5, l3, h6]; done) | (simp [inr_m1, h1, t4, u5, l3, h6]; omega) | (simp only [u5]; omega) | (clear hr; (try clear hkn); simp_all; done))) | (simp only [t4]; done) | (exfalso; clear hr; (try clear hkn); simp_all; done)))) rfl)
    · -- P2 lt rn
      refine v_aload_n dX9_trace_19 rfl 0 rfl ?_
      refine v_get (v := .ref (g.1 + 111)) fa_X9_217 dX9_trace_20 rfl (by decide) (ltn rfl) rfl ?_
      refine v_iload_n dX9_trace_23 rfl 1 rfl ?_
      refine v_iaload (len := 20) (j := P2) dX9_trace_24 rfl (ltn rfl) rfl (by decide) rfl (by omega) ?_
      refine v_goto (tgt := 29) dX9_trace_25 (by decide) ?_
      exact v_iret hr dX9_trace_29 (psi (by first | rfl | (simp only [bq, ifc_T, ifc_F, inr_m1, and_true, true_and, and_false, false_and, or_true, true_or, or_false, false_or, not_true_eq_false, not_false_eq_true, and_self, or_self, h1, t4, u5, l3, h6]; done) | (simp [bq, ifc_T, ifc_F, inr_m1, h1, t4, u5, l3, h6]; done) | ((try simp only [bq]); repeat (first | rfl | (refine eq_t ?_ ?_; focus (first | omega | assumption | (simp [inr_m1, h1, t4, u5, l3, h6]; done) | (simp [inr_m1, h1, t4, u5, l3, h6]; omega) | (simp only [u5]; omega) | (clear hr; (try clear hkn); simp_all; done))) | (refine eq_f ?_ ?_; focus (first | omega | assumption | (simp [inr_m1, h1, t4, u5, l3, h6]; done) | (simp [inr_m1, h1, t4, u5, l3, h6]; omega) | (simp only [u5]; omega) | (clear hr; (try clear hkn); simp_all; done))) | (simp only [t4]; done) | (exfalso; clear hr; (try clear hkn); simp_all; done)))) rfl)
set_option maxRecDepth 100000 in
set_option maxHeartbeats 400000 in
theorem c_X9_taken {g : Gl} {I : Ty} {L : TL} {na nt ni m : Nat} {nl : Nat → Nat} (i : Int32) (k : Int32) (pp : Nat) (hpp : pp ≤ 6) (hpe : I 65 0 = nI pp) : Ct g yX9_taken cX9_taken 4 (some .int) 3 0 0 [.ref (g.1 + 65), .int i, .int k] I L (RT na nt ni) (NT nl) (NB + m) (Ps (some (.int (ifc (inr k 7) (ifc (inr i pp) (ifc (k = 0 ∨ I 67 (tn i) = k ∨ (k = 1 ∧ I 67 (tn i) = 4) ∨ (k = 2 ∧ I 67 (tn i) = 5) ∨ (k = 3 ∧ I 67 (tn i) = 6)) (I 67 (tn i)) (-12)) (-11)) (-2)))) (I) L (RT na nt ni) (NT nl) (NB + m)) := by
  refine ct_of (by decide +kernel) (Nat.le_of_ble_eq_true rfl) (fun F hnm hr => ?_)
  clear hnm
  show V g F cX9_taken RX9 4 3 0 [(0, .ref (g.1 + 65)), (1, .int i), (2, .int k)] [] I L (RT na nt ni) (NT nl) (NB + m) 0 0
  refine v_aload_n dX9_taken_0 rfl 0 rfl ?_
  refine v_iload_n dX9_taken_1 rfl 2 rfl ?_
  refine v_iconst (v := 0) dX9_taken_2 (by decide) ?_
  refine v_bipush (v := 6) dX9_taken_3 (by decide) ?_
  refine v_callVi (As := [.int k, .int 0, .int 6]) (rest := []) lk_X9_237 (c_in0 k 6 (by decide)) dX9_taken_5 rfl (ltn rfl) rfl rfl (Nat.le_of_ble_eq_true rfl) (by decide) ?_
  refine v_ifb_ne (tgt := 14) dX9_taken_8 (by decide) (fun h1 => ?_) (fun h1 => ?_)
  · -- inr k 7
    refine v_aload_n dX9_taken_14 rfl 0 rfl ?_
    refine v_iload_n dX9_taken_15 rfl 1 rfl ?_
    refine v_callVi (As := [.int i]) (rest := []) lk_X9_245 (c_X9_isOne i pp hpp hpe) dX9_taken_16 rfl (ltn rfl) rfl rfl (Nat.le_of_ble_eq_true rfl) (by decide) ?_
    refine v_ifb_ne (tgt := 25) dX9_taken_19 (by decide) (fun h2 => ?_) (fun h2 => ?_)
    · -- inr i pp
      obtain ⟨P3, rfl, l4, t5, u6⟩ := inr_ex h2 (by omega)
      refine v_aload_n dX9_taken_25 rfl 0 rfl ?_
      refine v_get (v := .ref (g.1 + 67)) fa_X9_20 dX9_taken_26 rfl (by decide) (ltn rfl) rfl ?_
      refine v_iload_n dX9_taken_29 rfl 1 rfl ?_
      refine v_iaload (len := 6) (j := P3) dX9_taken_30 rfl (ltn rfl) rfl (by decide) rfl (by omega) ?_
      refine v_istore_n (lv2 := [(3, .int (I 67 P3)), (0, .ref (g.1 + 65)), (1, .int (nI P3)), (2, .int k)]) dX9_taken_31 rfl (by decide) rfl ?_
      refine v_iload_n dX9_taken_32 rfl 3 rfl ?_
      refine v_if_eq (tgt := 72) dX9_taken_33 (by decide) (fun h7 => ?_) (fun h7 => ?_)
      · -- k eq 0
        refine v_iload_n dX9_taken_72 rfl 0 rfl ?_
        refine v_goto (tgt := 78) dX9_taken_73 (by decide) ?_
        exact v_iret hr dX9_taken_78 (psi (by first | rfl | (simp only [bq, ifc_T, ifc_F, inr_m1, and_true, true_and, and_false, false_and, or_true, true_or, or_false, false_or, not_true_eq_false, not_false_eq_true, and_self, or_self, h1, h2, t5, u6, l4, h7]; done) | (simp [bq, ifc_T, ifc_F, inr_m1, h1, h2, t5, u6, l4, h7]; done) | ((try simp only [bq]); repeat (first | rfl | (refine eq_t ?_ ?_; focus (first | omega | assumption | (simp [inr_m1, h1, h2, t5, u6, l4, h7]; done) | (simp [inr_m1, h1, h2, t5, u6, l4, h7]; omega) | (simp only [u6]; omega) | (clear hr; (try clear hkn); simp_all; done))) | (refine eq_f ?_ ?_; focus (first | omega | assumption | (simp [inr_m1, h1, h2, t5, u6, l4, h7]; done) | (simp [inr_m1, h1, h2, t5, u6, l4, h7]; omega) | (simp only [u6]; omega) | (clear hr; (try clear hkn); simp_all; done))) | (simp only [t5]; done) | (exfalso; clear hr; (try clear hkn); simp_all; done)))) rfl)
      · -- k ne 0
        refine v_iload_n dX9_taken_36 rfl 0 rfl ?_
        refine v_iload_n dX9_taken_37 rfl 3 rfl ?_
        refine v_icmp_eq (tgt := 72) dX9_taken_38 (by decide) (fun h8 => ?_) (fun h8 => ?_)
        · -- I 67 P3 eq k
          refine v_iload_n dX9_taken_72 rfl 0 rfl ?_
          refine v_goto (tgt := 78) dX9_taken_73 (by decide) ?_
          exact v_iret hr dX9_taken_78 (psi (by first | rfl | (simp only [bq, ifc_T, ifc_F, inr_m1, and_true, true_and, and_false, false_and, or_true, true_or, or_false, false_or, not_true_eq_false, not_false_eq_true, and_self, or_self, h1, h2, t5, u6, l4, h7, h8]; done) | (simp [bq, ifc_T, ifc_F, inr_m1, h1, h2, t5, u6, l4, h7, h8]; done) | ((try simp only [bq]); repeat (first | rfl | (refine eq_t ?_ ?_; focus (first | omega | assumption | (simp [inr_m1, h1, h2, t5, u6, l4, h7, h8]; done) | (simp [inr_m1, h1, h2, t5, u6, l4, h7, h8]; omega) | (simp only [u6]; omega) | (clear hr; (try clear hkn); simp_all; done))) | (refine eq_f ?_ ?_; focus (first | omega | assumption | (simp [inr_m1, h1, h2, t5, u6, l4, h7, h8]; done) | (simp [inr_m1, h1, h2, t5, u6, l4, h7, h8]; omega) | (simp only [u6]; omega) | (clear hr; (try clear hkn); simp_all; done))) | (simp only [t5]; done) | (exfalso; clear hr; (try clear hkn); simp_all; done)))) rfl)
        · -- I 67 P3 ne k
          refine v_iload_n dX9_taken_41 rfl 3 rfl ?_
          refine v_iconst (v := 1) dX9_taken_42 (by decide) ?_
          refine v_icmp_ne (tgt := 51) dX9_taken_43 (by decide) (fun h9 => ?_) (fun h9 => ?_)
          · -- k ne 1
            refine v_iload_n dX9_taken_51 rfl 3 rfl ?_
            refine v_iconst (v := 2) dX9_taken_52 (by decide) ?_
            refine v_icmp_ne (tgt := 61) dX9_taken_53 (by decide) (fun h10 => ?_) (fun h10 => ?_)
            · -- k ne 2
              refine v_iload_n dX9_taken_61 rfl 3 rfl ?_
              refine v_iconst (v := 3) dX9_taken_62 (by decide) ?_
              refine v_icmp_ne (tgt := 76) dX9_taken_63 (by decide) (fun h11 => ?_) (fun h11 => ?_)
              · -- k ne 3
                refine v_bipush (v := (-12)) dX9_taken_76 (by decide) ?_
                exact v_iret hr dX9_taken_78 (psi (by first | rfl | (simp only [bq, ifc_T, ifc_F, inr_m1, and_true, true_and, and_false, false_and, or_true, true_or, or_false, false_or, not_true_eq_false, not_false_eq_true, and_self, or_self, h1, h2, t5, u6, l4, h7, h8, h9, h10, h11]; done) | (simp [bq, ifc_T, ifc_F, inr_m1, h1, h2, t5, u6, l4, h7, h8, h9, h10, h11]; done) | ((try simp only [bq]); repeat (first | rfl | (refine eq_t ?_ ?_; focus (first | omega | assumption | (simp [inr_m1, h1, h2, t5, u6, l4, h7, h8, h9, h10, h11]; done) | (simp [inr_m1, h1, h2, t5, u6, l4, h7, h8, h9, h10, h11]; omega) | (simp only [u6]; omega) | (clear hr; (try clear hkn); simp_all; done))) | (refine eq_f ?_ ?_; focus (first | omega | assumption | (simp [inr_m1, h1, h2, t5, u6, l4, h7, h8, h9, h10, h11]; done) | (simp [inr_m1, h1, h2, t5, u6, l4, h7, h8, h9, h10, h11]; omega) | (simp only [u6]; omega) | (clear hr; (try clear hkn); simp_all; done))) | (simp only [t5]; done) | (exfalso; clear hr; (try clear hkn); simp_all; done)))) rfl)
              · -- k eq 3
                refine v_iload_n dX9_taken_66 rfl 0 rfl ?_
                refine v_bipush (v := 6) dX9_taken_67 (by decide) ?_
                refine v_icmp_ne (tgt := 76) dX9_taken_69 (by decide) (fun h12 => ?_) (fun h12 => ?_)
                · -- I 67 P3 ne 6
                  refine v_bipush (v := (-12)) dX9_taken_76 (by decide) ?_
                  exact v_iret hr dX9_taken_78 (psi (by first | rfl | (simp only [bq, ifc_T, ifc_F, inr_m1, and_true, true_and, and_false, false_and, or_true, true_or, or_false, false_or, not_true_eq_false, not_false_eq_true, and_self, or_self, h1, h2, t5, u6, l4, h7, h8, h9, h10, h11, h12]; done) | (simp [bq, ifc_T, ifc_F, inr_m1, h1, h2, t5, u6, l4, h7, h8, h9, h10, h11, h12]; done) | ((try simp only [bq]); repeat (first | rfl | (refine eq_t ?_ ?_; focus (first | omega | assumption | (simp [inr_m1, h1, h2, t5, u6, l4, h7, h8, h9, h10, h11, h12]; done) | (simp [inr_m1, h1, h2, t5, u6, l4, h7, h8, h9, h10, h11, h12]; omega) | (simp only [u6]; omega) | (clear hr; (try clear hkn); simp_all; done))) | (refine eq_f ?_ ?_; focus (first | omega | assumption | (simp [inr_m1, h1, h2, t5, u6, l4, h7, h8, h9, h10, h11, h12]; done) | (simp [inr_m1, h1, h2, t5, u6, l4, h7, h8, h9, h10, h11, h12]; omega) | (simp only [u6]; omega) | (clear hr; (try clear hkn); simp_all; done))) | (simp only [t5]; done) | (exfalso; clear hr; (try clear hkn); simp_all; done)))) rfl)
                · -- I 67 P3 eq 6
                  refine v_iload_n dX9_taken_72 rfl 0 rfl ?_
                  refine v_goto (tgt := 78) dX9_taken_73 (by decide) ?_
                  exact v_iret hr dX9_taken_78 (psi (by first | rfl | (simp only [bq, ifc_T, ifc_F, inr_m1, and_true, true_and, and_false, false_and, or_true, true_or, or_false, false_or, not_true_eq_false, not_false_eq_true, and_self, or_self, h1, h2, t5, u6, l4, h7, h8, h9, h10, h11, h12]; done) | (simp [bq, ifc_T, ifc_F, inr_m1, h1, h2, t5, u6, l4, h7, h8, h9, h10, h11, h12]; done) | ((try simp only [bq]); repeat (first | rfl | (refine eq_t ?_ ?_; focus (first | omega | assumption | (simp [inr_m1, h1, h2, t5, u6, l4, h7, h8, h9, h10, h11, h12]; done) | (simp [inr_m1, h1, h2, t5, u6, l4, h7, h8, h9, h10, h11, h12]; omega) | (simp only [u6]; omega) | (clear hr; (try clear hkn); simp_all; done))) | (refine eq_f ?_ ?_; focus (first | omega | assumption | (simp [inr_m1, h1, h2, t5, u6, l4, h7, h8, h9, h10, h11, h12]; done) | (simp [inr_m1, h1, h2, t5, u6, l4, h7, h8, h9, h10, h11, h12]; omega) | (simp only [u6]; omega) | (clear hr; (try clear hkn); simp_all; done))) | (simp only [t5]; done) | (exfalso; clear hr; (try clear hkn); simp_all; done)))) rfl)
            · -- k eq 2
              refine v_iload_n dX9_taken_56 rfl 0 rfl ?_
              refine v_iconst (v := 5) dX9_taken_57 (by decide) ?_
              refine v_icmp_eq (tgt := 72) dX9_taken_58 (by decide) (fun h13 => ?_) (fun h13 => ?_)
              · -- I 67 P3 eq 5
                refine v_iload_n dX9_taken_72 rfl 0 rfl ?_
                refine v_goto (tgt := 78) dX9_taken_73 (by decide) ?_
                exact v_iret hr dX9_taken_78 (psi (by first | rfl | (simp only [bq, ifc_T, ifc_F, inr_m1, and_true, true_and, and_false, false_and, or_true, true_or, or_false, false_or, not_true_eq_false, not_false_eq_true, and_self, or_self, h1, h2, t5, u6, l4, h7, h8, h9, h10, h13]; done) | (simp [bq, ifc_T, ifc_F, inr_m1, h1, h2, t5, u6, l4, h7, h8, h9, h10, h13]; done) | ((try simp only [bq]); repeat (first | rfl | (refine eq_t ?_ ?_; focus (first | omega | assumption | (simp [inr_m1, h1, h2, t5, u6, l4, h7, h8, h9, h10, h13]; done) | (simp [inr_m1, h1, h2, t5, u6, l4, h7, h8, h9, h10, h13]; omega) | (simp only [u6]; omega) | (clear hr; (try clear hkn); simp_all; done))) | (refine eq_f ?_ ?_; focus (first | omega | assumption | (simp [inr_m1, h1, h2, t5, u6, l4, h7, h8, h9, h10, h13]; done) | (simp [inr_m1, h1, h2, t5, u6, l4, h7, h8, h9, h10, h13]; omega) | (simp only [u6]; omega) | (clear hr; (try clear hkn); simp_all; done))) | (simp only [t5]; done) | (exfalso; clear hr; (try clear hkn); simp_all; done)))) rfl)
              · -- I 67 P3 ne 5
                refine v_iload_n dX9_taken_61 rfl 3 rfl ?_
                refine v_iconst (v := 3) dX9_taken_62 (by decide) ?_
                refine v_icmp_ne (tgt := 76) dX9_taken_63 (by decide) (fun h14 => ?_) (fun h14 => ?_)
                · -- k ne 3
                  refine v_bipush (v := (-12)) dX9_taken_76 (by decide) ?_
                  exact v_iret hr dX9_taken_78 (psi (by first | rfl | (simp only [bq, ifc_T, ifc_F, inr_m1, and_true, true_and, and_false, false_and, or_true, true_or, or_false, false_or, not_true_eq_false, not_false_eq_true, and_self, or_self, h1, h2, t5, u6, l4, h7, h8, h9, h10, h13, h14]; done) | (simp [bq, ifc_T, ifc_F, inr_m1, h1, h2, t5, u6, l4, h7, h8, h9, h10, h13, h14]; done) | ((try simp only [bq]); repeat (first | rfl | (refine eq_t ?_ ?_; focus (first | omega | assumption | (simp [inr_m1, h1, h2, t5, u6, l4, h7, h8, h9, h10, h13, h14]; done) | (simp [inr_m1, h1, h2, t5, u6, l4, h7, h8, h9, h10, h13, h14]; omega) | (simp only [u6]; omega) | (clear hr; (try clear hkn); simp_all; done))) | (refine eq_f ?_ ?_; focus (first | omega | assumption | (simp [inr_m1, h1, h2, t5, u6, l4, h7, h8, h9, h10, h13, h14]; done) | (simp [inr_m1, h1, h2, t5, u6, l4, h7, h8, h9, h10, h13, h14]; omega) | (simp only [u6]; omega) | (clear hr; (try clear hkn); simp_all; done))) | (simp only [t5]; done) | (exfalso; clear hr; (try clear hkn); simp_all; done)))) rfl)
                · -- k eq 3
                  refine v_iload_n dX9_taken_66 rfl 0 rfl ?_
                  refine v_bipush (v := 6) dX9_taken_67 (by decide) ?_
                  refine v_icmp_ne (tgt := 76) dX9_taken_69 (by decide) (fun h15 => ?_) (fun h15 => ?_)
                  · -- I 67 P3 ne 6
                    refine v_bipush (v := (-12)) dX9_taken_76 (by decide) ?_
                    exact v_iret hr dX9_taken_78 (psi (by first | rfl | (simp only [bq, ifc_T, ifc_F, inr_m1, and_true, true_and, and_false, false_and, or_true, true_or, or_false, false_or, not_true_eq_false, not_false_eq_true, and_self, or_self, h1, h2, t5, u6, l4, h7, h8, h9, h10, h13, h14, h15]; done) | (simp [bq, ifc_T, ifc_F, inr_m1, h1, h2, t5, u6, l4, h7, h8, h9, h10, h13, h14, h15]; done) | ((try simp only [bq]); repeat (first | rfl | (refine eq_t ?_ ?_; focus (first | omega | assumption | (simp [inr_m1, h1, h2, t5, u6, l4, h7, h8, h9, h10, h13, h14, h15]; done) | (simp [inr_m1, h1, h2, t5, u6, l4, h7, h8, h9, h10, h13, h14, h15]; omega) | (simp only [u6]; omega) | (clear hr; (try clear hkn); simp_all; done))) | (refine eq_f ?_ ?_; focus (first | omega | assumption | (simp [inr_m1, h1, h2, t5, u6, l4, h7, h8, h9, h10, h13, h14, h15]; done) | (simp [inr_m1, h1, h2, t5, u6, l4, h7, h8, h9, h10, h13, h14, h15]; omega) | (simp only [u6]; omega) | (clear hr; (try clear hkn); simp_all; done))) | (simp only [t5]; done) | (exfalso; clear hr; (try clear hkn); simp_all; done)))) rfl)
                  · -- I 67 P3 eq 6
                    refine v_iload_n dX9_taken_72 rfl 0 rfl ?_
                    refine v_goto (tgt := 78) dX9_taken_73 (by decide) ?_
                    exact v_iret hr dX9_taken_78 (psi (by first | rfl | (simp only [bq, ifc_T, ifc_F, inr_m1, and_true, true_and, and_false, false_and, or_true, true_or, or_false, false_or, not_true_eq_false, not_false_eq_true, and_self, or_self, h1, h2, t5, u6, l4, h7, h8, h9, h10, h13, h14, h15]; done) | (simp [bq, ifc_T, ifc_F, inr_m1, h1, h2, t5, u6, l4, h7, h8, h9, h10, h13, h14, h15]; done) | ((try simp only [bq]); repeat (first | rfl | (refine eq_t ?_ ?_; focus (first | omega | assumption | (simp [inr_m1, h1, h2, t5, u6, l4, h7, h8, h9, h10, h13, h14, h15]; done) | (simp [inr_m1, h1, h2, t5, u6, l4, h7, h8, h9, h10, h13, h14, h15]; omega) | (simp only [u6]; omega) | (clear hr; (try clear hkn); simp_all; done))) | (refine eq_f ?_ ?_; focus (first | omega | assumption | (simp [inr_m1, h1, h2, t5, u6, l4, h7, h8, h9, h10, h13, h14, h15]; done) | (simp [inr_m1, h1, h2, t5, u6, l4, h7, h8, h9, h10, h13, h14, h15]; omega) | (simp only [u6]; omega) | (clear hr; (try clear hkn); simp_all; done))) | (simp only [t5]; done) | (exfalso; clear hr; (try clear hkn); simp_all; done)))) rfl)
          · -- k eq 1
            refine v_iload_n dX9_taken_46 rfl 0 rfl ?_
            refine v_iconst (v := 4) dX9_taken_47 (by decide) ?_
            refine v_icmp_eq (tgt := 72) dX9_taken_48 (by decide) (fun h16 => ?_) (fun h16 => ?_)
            · -- I 67 P3 eq 4
              refine v_iload_n dX9_taken_72 rfl 0 rfl ?_
              refine v_goto (tgt := 78) dX9_taken_73 (by decide) ?_
              exact v_iret hr dX9_taken_78 (psi (by first | rfl | (simp only [bq, ifc_T, ifc_F, inr_m1, and_true, true_and, and_false, false_and, or_true, true_or, or_false, false_or, not_true_eq_false, not_false_eq_true, and_self, or_self, h1, h2, t5, u6, l4, h7, h8, h9, h16]; done) | (simp [bq, ifc_T, ifc_F, inr_m1, h1, h2, t5, u6, l4, h7, h8, h9, h16]; done) | ((try simp only [bq]); repeat (first | rfl | (refine eq_t ?_ ?_; focus (first | omega | assumption | (simp [inr_m1, h1, h2, t5, u6, l4, h7, h8, h9, h16]; done) | (simp [inr_m1, h1, h2, t5, u6, l4, h7, h8, h9, h16]; omega) | (simp only [u6]; omega) | (clear hr; (try clear hkn); simp_all; done))) | (refine eq_f ?_ ?_; focus (first | omega | assumption | (simp [inr_m1, h1, h2, t5, u6, l4, h7, h8, h9, h16]; done) | (simp [inr_m1, h1, h2, t5, u6, l4, h7, h8, h9, h16]; omega) | (simp only [u6]; omega) | (clear hr; (try clear hkn); simp_all; done))) | (simp only [t5]; done) | (exfalso; clear hr; (try clear hkn); simp_all; done)))) rfl)
            · -- I 67 P3 ne 4
              refine v_iload_n dX9_taken_51 rfl 3 rfl ?_
              refine v_iconst (v := 2) dX9_taken_52 (by decide) ?_
              refine v_icmp_ne (tgt := 61) dX9_taken_53 (by decide) (fun h17 => ?_) (fun h17 => ?_)
              · -- k ne 2
                refine v_iload_n dX9_taken_61 rfl 3 rfl ?_
                refine v_iconst (v := 3) dX9_taken_62 (by decide) ?_
                refine v_icmp_ne (tgt := 76) dX9_taken_63 (by decide) (fun h18 => ?_) (fun h18 => ?_)
                · -- k ne 3
                  refine v_bipush (v := (-12)) dX9_taken_76 (by decide) ?_
                  exact v_iret hr dX9_taken_78 (psi (by first | rfl | (simp only [bq, ifc_T, ifc_F, inr_m1, and_true, true_and, and_false, false_and, or_true, true_or, or_false, false_or, not_true_eq_false, not_false_eq_true, and_self, or_self, h1, h2, t5, u6, l4, h7, h8, h9, h16, h17, h18]; done) | (simp [bq, ifc_T, ifc_F, inr_m1, h1, h2, t5, u6, l4, h7, h8, h9, h16, h17, h18]; done) | ((try simp only [bq]); repeat (first | rfl | (refine eq_t ?_ ?_; focus (first | omega | assumption | (simp [inr_m1, h1, h2, t5, u6, l4, h7, h8, h9, h16, h17, h18]; done) | (simp [inr_m1, h1, h2, t5, u6, l4, h7, h8, h9, h16, h17, h18]; omega) | (simp only [u6]; omega) | (clear hr; (try clear hkn); simp_all; done))) | (refine eq_f ?_ ?_; focus (first | omega | assumption | (simp [inr_m1, h1, h2, t5, u6, l4, h7, h8, h9, h16, h17, h18]; done) | (simp [inr_m1, h1, h2, t5, u6, l4, h7, h8, h9, h16, h17, h18]; omega) | (simp only [u6]; omega) | (clear hr; (try clear hkn); simp_all; done))) | (simp only [t5]; done) | (exfalso; clear hr; (try clear hkn); simp_all; done)))) rfl)
                · -- k eq 3
                  refine v_iload_n dX9_taken_66 rfl 0 rfl ?_
                  refine v_bipush (v := 6) dX9_taken_67 (by decide) ?_
                  refine v_icmp_ne (tgt := 76) dX9_taken_69 (by decide) (fun h19 => ?_) (fun h19 => ?_)
                  · -- I 67 P3 ne 6
                    refine v_bipush (v := (-12)) dX9_taken_76 (by decide) ?_
                    exact v_iret hr dX9_taken_78 (psi (by first | rfl | (simp only [bq, ifc_T, ifc_F, inr_m1, and_true, true_and, and_false, false_and, or_true, true_or, or_false, false_or, not_true_eq_false, not_false_eq_true, and_self, or_self, h1, h2, t5, u6, l4, h7, h8, h9, h16, h17, h18, h19]; done) | (simp [bq, ifc_T, ifc_F, inr_m1, h1, h2, t5, u6, l4, h7, h8, h9, h16, h17, h18, h19]; done) | ((try simp only [bq]); repeat (first | rfl | (refine eq_t ?_ ?_; focus (first | omega | assumption | (simp [inr_m1, h1, h2, t5, u6, l4, h7, h8, h9, h16, h17, h18, h19]; done) | (simp [inr_m1, h1, h2, t5, u6, l4, h7, h8, h9, h16, h17, h18, h19]; omega) | (simp only [u6]; omega) | (clear hr; (try clear hkn); simp_all; done))) | (refine eq_f ?_ ?_; focus (first | omega | assumption | (simp [inr_m1, h1, h2, t5, u6, l4, h7, h8, h9, h16, h17, h18, h19]; done) | (simp [inr_m1, h1, h2, t5, u6, l4, h7, h8, h9, h16, h17, h18, h19]; omega) | (simp only [u6]; omega) | (clear hr; (try clear hkn); simp_all; done))) | (simp only [t5]; done) | (exfalso; clear hr; (try clear hkn); simp_all; done)))) rfl)
                  · -- I 67 P3 eq 6
                    refine v_iload_n dX9_taken_72 rfl 0 rfl ?_
                    refine v_goto (tgt := 78) dX9_taken_73 (by decide) ?_
                    exact v_iret hr dX9_taken_78 (psi (by first | rfl | (simp only [bq, ifc_T, ifc_F, inr_m1, and_true, true_and, and_false, false_and, or_true, true_or, or_false, false_or, not_true_eq_false, not_false_eq_true, and_self, or_self, h1, h2, t5, u6, l4, h7, h8, h9, h16, h17, h18, h19]; done) | (simp [bq, ifc_T, ifc_F, inr_m1, h1, h2, t5, u6, l4, h7, h8, h9, h16, h17, h18, h19]; done) | ((try simp only [bq]); repeat (first | rfl | (refine eq_t ?_ ?_; focus (first | omega | assumption | (simp [inr_m1, h1, h2, t5, u6, l4, h7, h8, h9, h16, h17, h18, h19]; done) | (simp [inr_m1, h1, h2, t5, u6, l4, h7, h8, h9, h16, h17, h18, h19]; omega) | (simp only [u6]; omega) | (clear hr; (try clear hkn); simp_all; done))) | (refine eq_f ?_ ?_; focus (first | omega | assumption | (simp [inr_m1, h1, h2, t5, u6, l4, h7, h8, h9, h16, h17, h18, h19]; done) | (simp [inr_m1, h1, h2, t5, u6, l4, h7, h8, h9, h16, h17, h18, h19]; omega) | (simp only [u6]; omega) | (clear hr; (try clear hkn); simp_all; done))) | (simp only [t5]; done) | (exfalso; clear hr; (try clear hkn); simp_all; done)))) rfl)
              · -- k eq 2
                refine v_iload_n dX9_taken_56 rfl 0 rfl ?_
                refine v_iconst (v := 5) dX9_taken_57 (by decide) ?_
                refine v_icmp_eq (tgt := 72) dX9_taken_58 (by decide) (fun h20 => ?_) (fun h20 => ?_)
                · -- I 67 P3 eq 5
                  refine v_iload_n dX9_taken_72 rfl 0 rfl ?_
                  refine v_goto (tgt := 78) dX9_taken_73 (by decide) ?_
                  exact v_iret hr dX9_taken_78 (psi (by first | rfl | (simp only [bq, ifc_T, ifc_F, inr_m1, and_true, true_and, and_false, false_and, or_true, true_or, or_false, false_or, not_true_eq_false, not_false_eq_true, and_self, or_self, h1, h2, t5, u6, l4, h7, h8, h9, h16, h17, h20]; done) | (simp [bq, ifc_T, ifc_F, inr_m1, h1, h2, t5, u6, l4, h7, h8, h9, h16, h17, h20]; done) | ((try simp only [bq]); repeat (first | rfl | (refine eq_t ?_ ?_; focus (first | omega | assumption | (simp [inr_m1, h1, h2, t5, u6, l4, h7, h8, h9, h16, h17, h20]; done) | (simp [inr_m1, h1, h2, t5, u6, l4, h7, h8, h9, h16, h17, h20]; omega) | (simp only [u6]; omega) | (clear hr; (try clear hkn); simp_all; done))) | (refine eq_f ?_ ?_; focus (first | omega | assumption | (simp [inr_m1, h1, h2, t5, u6, l4, h7, h8, h9, h16, h17, h20]; done) | (simp [inr_m1, h1, h2, t5, u6, l4, h7, h8, h9, h16, h17, h20]; omega) | (simp only [u6]; omega) | (clear hr; (try clear hkn); simp_all; done))) | (simp only [t5]; done) | (exfalso; clear hr; (try clear hkn); simp_all; done)))) rfl)
                · -- I 67 P3 ne 5
                  refine v_iload_n dX9_taken_61 rfl 3 rfl ?_
                  refine v_iconst (v := 3) dX9_taken_62 (by decide) ?_
                  refine v_icmp_ne (tgt := 76) dX9_taken_63 (by decide) (fun h21 => ?_) (fun h21 => ?_)
                  · -- k ne 3
                    refine v_bipush (v := (-12)) dX9_taken_76 (by decide) ?_
                    exact v_iret hr dX9_taken_78 (psi (by first | rfl | (simp only [bq, ifc_T, ifc_F, inr_m1, and_true, true_and, and_false, false_and, or_true, true_or, or_false, false_or, not_true_eq_false, not_false_eq_true, and_self, or_self, h1, h2, t5, u6, l4, h7, h8, h9, h16, h17, h20, h21]; done) | (simp [bq, ifc_T, ifc_F, inr_m1, h1, h2, t5, u6, l4, h7, h8, h9, h16, h17, h20, h21]; done) | ((try simp only [bq]); repeat (first | rfl | (refine eq_t ?_ ?_; focus (first | omega | assumption | (simp [inr_m1, h1, h2, t5, u6, l4, h7, h8, h9, h16, h17, h20, h21]; done) | (simp [inr_m1, h1, h2, t5, u6, l4, h7, h8, h9, h16, h17, h20, h21]; omega) | (simp only [u6]; omega) | (clear hr; (try clear hkn); simp_all; done))) | (refine eq_f ?_ ?_; focus (first | omega | assumption | (simp [inr_m1, h1, h2, t5, u6, l4, h7, h8, h9, h16, h17, h20, h21]; done) | (simp [inr_m1, h1, h2, t5, u6, l4, h7, h8, h9, h16, h17, h20, h21]; omega) | (simp only [u6]; omega) | (clear hr; (try clear hkn); simp_all; done))) | (simp only [t5]; done) | (exfalso; clear hr; (try clear hkn); simp_all; done)))) rfl)
                  · -- k eq 3
                    refine v_iload_n dX9_taken_66 rfl 0 rfl ?_
                    refine v_bipush (v := 6) dX9_taken_67 (by decide) ?_
                    refine v_icmp_ne (tgt := 76) dX9_taken_69 (by decide) (fun h22 => ?_) (fun h22 => ?_)
                    · -- I 67 P3 ne 6
                      refine v_bipush (v := (-12)) dX9_taken_76 (by decide) ?_
                      exact v_iret hr dX9_taken_78 (psi (by first | rfl | (simp only [bq, ifc_T, ifc_F, inr_m1, and_true, true_and, and_false, false_and, or_true, true_or, or_false, false_or, not_true_eq_false, not_false_eq_true, and_self, or_self, h1, h2, t5, u6, l4, h7, h8, h9, h16, h17, h20, h21, h22]; done) | (simp [bq, ifc_T, ifc_F, inr_m1, h1, h2, t5, u6, l4, h7, h8, h9, h16, h17, h20, h21, h22]; done) | ((try simp only [bq]); repeat (first | rfl | (refine eq_t ?_ ?_; focus (first | omega | assumption | (simp [inr_m1, h1, h2, t5, u6, l4, h7, h8, h9, h16, h17, h20, h21, h22]; done) | (simp [inr_m1, h1, h2, t5, u6, l4, h7, h8, h9, h16, h17, h20, h21, h22]; omega) | (simp only [u6]; omega) | (clear hr; (try clear hkn); simp_all; done))) | (refine eq_f ?_ ?_; focus (first | omega | assumption | (simp [inr_m1, h1, h2, t5, u6, l4, h7, h8, h9, h16, h17, h20, h21, h22]; done) | (simp [inr_m1, h1, h2, t5, u6, l4, h7, h8, h9, h16, h17, h20, h21, h22]; omega) | (simp only [u6]; omega) | (clear hr; (try clear hkn); simp_all; done))) | (simp only [t5]; done) | (exfalso; clear hr; (try clear hkn); simp_all; done)))) rfl)
                    · -- I 67 P3 eq 6
                      refine v_iload_n dX9_taken_72 rfl 0 rfl ?_
                      refine v_goto (tgt := 78) dX9_taken_73 (by decide) ?_
                      exact v_iret hr dX9_taken_78 (psi (by first | rfl | (simp only [bq, ifc_T, ifc_F, inr_m1, and_true, true_and, and_false, false_and, or_true, true_or, or_false, false_or, not_true_eq_false, not_false_eq_true, and_self, or_self, h1, h2, t5, u6, l4, h7, h8, h9, h16, h17, h20, h21, h22]; done) | (simp [bq, ifc_T, ifc_F, inr_m1, h1, h2, t5, u6, l4, h7, h8, h9, h16, h17, h20, h21, h22]; done) | ((try simp only [bq]); repeat (first | rfl | (refine eq_t ?_ ?_; focus (first | omega | assumption | (simp [inr_m1, h1, h2, t5, u6, l4, h7, h8, h9, h16, h17, h20, h21, h22]; done) | (simp [inr_m1, h1, h2, t5, u6, l4, h7, h8, h9, h16, h17, h20, h21, h22]; omega) | (simp only [u6]; omega) | (clear hr; (try clear hkn); simp_all; done))) | (refine eq_f ?_ ?_; focus (first | omega | assumption | (simp [inr_m1, h1, h2, t5, u6, l4, h7, h8, h9, h16, h17, h20, h21, h22]; done) | (simp [inr_m1, h1, h2, t5, u6, l4, h7, h8, h9, h16, h17, h20, h21, h22]; omega) | (simp only [u6]; omega) | (clear hr; (try clear hkn); simp_all; done))) | (simp only [t5]; done) | (exfalso; clear hr; (try clear hkn); simp_all; done)))) rfl)
    · -- not inr i pp
      refine v_bipush (v := (-11)) dX9_taken_22 (by decide) ?_
      exact v_iret hr dX9_taken_24 (psi (by first | rfl | (simp only [bq, ifc_T, ifc_F, inr_m1, and_true, true_and, and_false, false_and, or_true, true_or, or_false, false_or, not_true_eq_false, not_false_eq_true, and_self, or_self, h1, h2]; done) | (simp [bq, ifc_T, ifc_F, inr_m1, h1, h2]; done) | ((try simp only [bq]); repeat (first | rfl | (refine eq_t ?_ ?_; focus (first | omega | assumption | (simp [inr_m1, h1, h2]; done) | (simp [inr_m1, h1, h2]; omega) | (clear hr; (try clear hkn); simp_all; done))) | (refine eq_f ?_ ?_; focus (first | omega | assumption | (simp [inr_m1, h1, h2]; done) | (simp [inr_m1, h1, h2]; omega) | (clear hr; (try clear hkn); simp_all; done))) | (exfalso; clear hr; (try clear hkn); simp_all; done)))) rfl)
  · -- not inr k 7
    refine v_bipush (v := (-2)) dX9_taken_11 (by decide) ?_
    exact v_iret hr dX9_taken_13 (psi (by first | rfl | (simp only [bq, ifc_T, ifc_F, inr_m1, and_true, true_and, and_false, false_and, or_true, true_or, or_false, false_or, not_true_eq_false, not_false_eq_true, and_self, or_self, h1]; done) | (simp [bq, ifc_T, ifc_F, inr_m1, h1]; done) | ((try simp only [bq]); repeat (first | rfl | (refine eq_t ?_ ?_; focus (first | omega | assumption | (simp [inr_m1, h1]; done) | (simp [inr_m1, h1]; omega) | (clear hr; (try clear hkn); simp_all; done))) | (refine eq_f ?_ ?_; focus (first | omega | assumption | (simp [inr_m1, h1]; done) | (simp [inr_m1, h1]; omega) | (clear hr; (try clear hkn); simp_all; done))) | (exfalso; clear hr; (try clear hkn); simp_all; done)))) rfl)
set_option maxRecDepth 100000 in
set_option maxHeartbeats 400000 in
theorem c_X9_count {g : Gl} {I : Ty} {L : TL} {na nt ni m : Nat} {nl : Nat → Nat} (w : Int32)  : Ct g yX9_count cX9_count 2 (some .int) 0 0 0 [.ref (g.1 + 65), .int w] I L (RT na nt ni) (NT nl) (NB + m) (Ps (some (.int (ifc (w = 0) (I 65 0) (ifc (w = 1) (I 65 10) (ifc (w = 2) (I 65 35) (ifc (w = 3) (I 65 39) (ifc (w = 4) (I 65 40) (ifc (w = 5) (I 65 12) (ifc (w = 6) (I 65 67) (-2)))))))))) (I) L (RT na nt ni) (NT nl) (NB + m)) := by
  refine ct_of (by decide +kernel) (Nat.le_of_ble_eq_true rfl) (fun F hnm hr => ?_)
  clear hnm
  show V g F cX9_count RX9 2 0 0 [(0, .ref (g.1 + 65)), (1, .int w)] [] I L (RT na nt ni) (NT nl) (NB + m) 0 0
  refine v_iload_n dX9_count_0 rfl 1 rfl ?_
  by_cases k1_0 : w = 0
  · refine v_is k1_0 ?_
    refine v_tabIn (off := 43) (tgt := 44) dX9_count_1 (by decide) (by decide) (by decide) (by decide) ?_
    refine v_aload_n dX9_count_44 rfl 0 rfl ?_
    refine v_get (v := .int (I 65 0)) fa_X9_7 dX9_count_45 rfl (by decide) (ltn rfl) rfl ?_
    exact v_iret hr dX9_count_48 (psi (by first | rfl | (simp only [bq, ifc_T, ifc_F, inr_m1, and_true, true_and, and_false, false_and, or_true, true_or, or_false, false_or, not_true_eq_false, not_false_eq_true, and_self, or_self, k1_0]; done) | (simp [bq, ifc_T, ifc_F, inr_m1, k1_0]; done) | ((try simp only [bq]); repeat (first | rfl | (refine eq_t ?_ ?_; focus (first | omega | assumption | (simp [inr_m1, k1_0]; done) | (simp [inr_m1, k1_0]; omega) | (clear hr; (try clear hkn); simp_all; done))) | (refine eq_f ?_ ?_; focus (first | omega | assumption | (simp [inr_m1, k1_0]; done) | (simp [inr_m1, k1_0]; omega) | (clear hr; (try clear hkn); simp_all; done))) | (exfalso; clear hr; (try clear hkn); simp_all; done)))) rfl)
  by_cases k1_1 : w = 1
  · refine v_is k1_1 ?_
    refine v_tabIn (off := 48) (tgt := 49) dX9_count_1 (by decide) (by decide) (by decide) (by decide) ?_
    refine v_aload_n dX9_count_49 rfl 0 rfl ?_
    refine v_get (v := .int (I 65 10)) fa_X9_41 dX9_count_50 rfl (by decide) (ltn rfl) rfl ?_
    exact v_iret hr dX9_count_53 (psi (by first | rfl | (simp only [bq, ifc_T, ifc_F, inr_m1, and_true, true_and, and_false, false_and, or_true, true_or, or_false, false_or, not_true_eq_false, not_false_eq_true, and_self, or_self, k1_1]; done) | (simp [bq, ifc_T, ifc_F, inr_m1, k1_1]; done) | ((try simp only [bq]); repeat (first | rfl | (refine eq_t ?_ ?_; focus (first | omega | assumption | (simp [inr_m1, k1_1]; done) | (simp [inr_m1, k1_1]; omega) | (clear hr; (try clear hkn); simp_all; done))) | (refine eq_f ?_ ?_; focus (first | omega | assumption | (simp [inr_m1, k1_1]; done) | (simp [inr_m1, k1_1]; omega) | (clear hr; (try clear hkn); simp_all; done))) | (exfalso; clear hr; (try clear hkn); simp_all; done)))) rfl)
  by_cases k1_2 : w = 2
  · refine v_is k1_2 ?_
    refine v_tabIn (off := 53) (tgt := 54) dX9_count_1 (by decide) (by decide) (by decide) (by decide) ?_
    refine v_aload_n dX9_count_54 rfl 0 rfl ?_
    refine v_get (v := .int (I 65 35)) fa_X9_117 dX9_count_55 rfl (by decide) (ltn rfl) rfl ?_
    exact v_iret hr dX9_count_58 (psi (by first | rfl | (simp only [bq, ifc_T, ifc_F, inr_m1, and_true, true_and, and_false, false_and, or_true, true_or, or_false, false_or, not_true_eq_false, not_false_eq_true, and_self, or_self, k1_2]; done) | (simp [bq, ifc_T, ifc_F, inr_m1, k1_2]; done) | ((try simp only [bq]); repeat (first | rfl | (refine eq_t ?_ ?_; focus (first | omega | assumption | (simp [inr_m1, k1_2]; done) | (simp [inr_m1, k1_2]; omega) | (clear hr; (try clear hkn); simp_all; done))) | (refine eq_f ?_ ?_; focus (first | omega | assumption | (simp [inr_m1, k1_2]; done) | (simp [inr_m1, k1_2]; omega) | (clear hr; (try clear hkn); simp_all; done))) | (exfalso; clear hr; (try clear hkn); simp_all; done)))) rfl)
  by_cases k1_3 : w = 3
  · refine v_is k1_3 ?_
    refine v_tabIn (off := 58) (tgt := 59) dX9_count_1 (by decide) (by decide) (by decide) (by decide) ?_
    refine v_aload_n dX9_count_59 rfl 0 rfl ?_
    refine v_get (v := .int (I 65 39)) fa_X9_129 dX9_count_60 rfl (by decide) (ltn rfl) rfl ?_
    exact v_iret hr dX9_count_63 (psi (by first | rfl | (simp only [bq, ifc_T, ifc_F, inr_m1, and_true, true_and, and_false, false_and, or_true, true_or, or_false, false_or, not_true_eq_false, not_false_eq_true, and_self, or_self, k1_3]; done) | (simp [bq, ifc_T, ifc_F, inr_m1, k1_3]; done) | ((try simp only [bq]); repeat (first | rfl | (refine eq_t ?_ ?_; focus (first | omega | assumption | (simp [inr_m1, k1_3]; done) | (simp [inr_m1, k1_3]; omega) | (clear hr; (try clear hkn); simp_all; done))) | (refine eq_f ?_ ?_; focus (first | omega | assumption | (simp [inr_m1, k1_3]; done) | (simp [inr_m1, k1_3]; omega) | (clear hr; (try clear hkn); simp_all; done))) | (exfalso; clear hr; (try clear hkn); simp_all; done)))) rfl)
  by_cases k1_4 : w = 4
  · refine v_is k1_4 ?_
    refine v_tabIn (off := 63) (tgt := 64) dX9_count_1 (by decide) (by decide) (by decide) (by decide) ?_
    refine v_aload_n dX9_count_64 rfl 0 rfl ?_
    refine v_get (v := .int (I 65 40)) fa_X9_132 dX9_count_65 rfl (by decide) (ltn rfl) rfl ?_
    exact v_iret hr dX9_count_68 (psi (by first | rfl | (simp only [bq, ifc_T, ifc_F, inr_m1, and_true, true_and, and_false, false_and, or_true, true_or, or_false, false_or, not_true_eq_false, not_false_eq_true, and_self, or_self, k1_4]; done) | (simp [bq, ifc_T, ifc_F, inr_m1, k1_4]; done) | ((try simp only [bq]); repeat (first | rfl | (refine eq_t ?_ ?_; focus (first | omega | assumption | (simp [inr_m1, k1_4]; done) | (simp [inr_m1, k1_4]; omega) | (clear hr; (try clear hkn); simp_all; done))) | (refine eq_f ?_ ?_; focus (first | omega | assumption | (simp [inr_m1, k1_4]; done) | (simp [inr_m1, k1_4]; omega) | (clear hr; (try clear hkn); simp_all; done))) | (exfalso; clear hr; (try clear hkn); simp_all; done)))) rfl)
  by_cases k1_5 : w = 5
  · refine v_is k1_5 ?_
    refine v_tabIn (off := 68) (tgt := 69) dX9_count_1 (by decide) (by decide) (by decide) (by decide) ?_
    refine v_aload_n dX9_count_69 rfl 0 rfl ?_
    refine v_get (v := .int (I 65 12)) fa_X9_47 dX9_count_70 rfl (by decide) (ltn rfl) rfl ?_
    exact v_iret hr dX9_count_73 (psi (by first | rfl | (simp only [bq, ifc_T, ifc_F, inr_m1, and_true, true_and, and_false, false_and, or_true, true_or, or_false, false_or, not_true_eq_false, not_false_eq_true, and_self, or_self, k1_5]; done) | (simp [bq, ifc_T, ifc_F, inr_m1, k1_5]; done) | ((try simp only [bq]); repeat (first | rfl | (refine eq_t ?_ ?_; focus (first | omega | assumption | (simp [inr_m1, k1_5]; done) | (simp [inr_m1, k1_5]; omega) | (clear hr; (try clear hkn); simp_all; done))) | (refine eq_f ?_ ?_; focus (first | omega | assumption | (simp [inr_m1, k1_5]; done) | (simp [inr_m1, k1_5]; omega) | (clear hr; (try clear hkn); simp_all; done))) | (exfalso; clear hr; (try clear hkn); simp_all; done)))) rfl)
  by_cases k1_6 : w = 6
  · refine v_is k1_6 ?_
    refine v_tabIn (off := 73) (tgt := 74) dX9_count_1 (by decide) (by decide) (by decide) (by decide) ?_
    refine v_aload_n dX9_count_74 rfl 0 rfl ?_
    refine v_get (v := .int (I 65 67)) fa_X9_214 dX9_count_75 rfl (by decide) (ltn rfl) rfl ?_
    exact v_iret hr dX9_count_78 (psi (by first | rfl | (simp only [bq, ifc_T, ifc_F, inr_m1, and_true, true_and, and_false, false_and, or_true, true_or, or_false, false_or, not_true_eq_false, not_false_eq_true, and_self, or_self, k1_6]; done) | (simp [bq, ifc_T, ifc_F, inr_m1, k1_6]; done) | ((try simp only [bq]); repeat (first | rfl | (refine eq_t ?_ ?_; focus (first | omega | assumption | (simp [inr_m1, k1_6]; done) | (simp [inr_m1, k1_6]; omega) | (clear hr; (try clear hkn); simp_all; done))) | (refine eq_f ?_ ?_; focus (first | omega | assumption | (simp [inr_m1, k1_6]; done) | (simp [inr_m1, k1_6]; omega) | (clear hr; (try clear hkn); simp_all; done))) | (exfalso; clear hr; (try clear hkn); simp_all; done)))) rfl)
  have t2 : w.toInt < 0 ∨ 6 < w.toInt := by
    rcases sw_out w (0) (6) with h | h | ⟨ha, hb⟩
    · exact Or.inl h
    · exact Or.inr h
    · exfalso
      have hz : ∀ z : Int, 0 ≤ z → z ≤ 6 → z = 0 ∨ z = 1 ∨ z = 2 ∨ z = 3 ∨ z = 4 ∨ z = 5 ∨ z = 6 := by omega
      rcases hz _ ha hb with e | e | e | e | e | e | e
      · exact absurd (sw_eq (k := 0) e (by decide)) k1_0
      · exact absurd (sw_eq (k := 1) e (by decide)) k1_1
      · exact absurd (sw_eq (k := 2) e (by decide)) k1_2
      · exact absurd (sw_eq (k := 3) e (by decide)) k1_3
      · exact absurd (sw_eq (k := 4) e (by decide)) k1_4
      · exact absurd (sw_eq (k := 5) e (by decide)) k1_5
      · exact absurd (sw_eq (k := 6) e (by decide)) k1_6
  refine v_tabOut (tgt := 79) dX9_count_1 t2 (by decide) ?_
  refine v_bipush (v := (-2)) dX9_count_79 (by decide) ?_
  exact v_iret hr dX9_count_81 (psi (by first | rfl | (simp only [bq, ifc_T, ifc_F, inr_m1, and_true, true_and, and_false, false_and, or_true, true_or, or_false, false_or, not_true_eq_false, not_false_eq_true, and_self, or_self, k1_0, k1_1, k1_2, k1_3, k1_4, k1_5, k1_6]; done) | (simp [bq, ifc_T, ifc_F, inr_m1, k1_0, k1_1, k1_2, k1_3, k1_4, k1_5, k1_6]; done) | ((try simp only [bq]); repeat (first | rfl | (refine eq_t ?_ ?_; focus (first | omega | assumption | (simp [inr_m1, k1_0, k1_1, k1_2, k1_3, k1_4, k1_5, k1_6]; done) | (simp [inr_m1, k1_0, k1_1, k1_2, k1_3, k1_4, k1_5, k1_6]; omega) | (clear hr; (try clear hkn); simp_all; done))) | (refine eq_f ?_ ?_; focus (first | omega | assumption | (simp [inr_m1, k1_0, k1_1, k1_2, k1_3, k1_4, k1_5, k1_6]; done) | (simp [inr_m1, k1_0, k1_1, k1_2, k1_3, k1_4, k1_5, k1_6]; omega) | (clear hr; (try clear hkn); simp_all; done))) | (exfalso; clear hr; (try clear hkn); simp_all; done)))) rfl)
