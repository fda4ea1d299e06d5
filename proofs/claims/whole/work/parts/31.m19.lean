set_option maxRecDepth 100000 in
set_option maxHeartbeats 400000 in
theorem c_X9_pass {g : Gl} {I : Ty} {L : TL} {na nt ni m : Nat} {nl : Nat → Nat} (nz : Int32) (pp : Nat) (hpp : pp ≤ 6) (hpe : I 65 0 = nI pp) (hN : mOK I) (hS : okS (mget I)) (hG : okG (I 70)) (hh : Nat) (hh9 : hh ≤ 9999) (hhe : I 65 1 = nI hh) : Ct g yX9_pass cX9_pass 2 (some .int) 7 0 0 [.ref (g.1 + 65), .int nz] I L (RT na nt ni) (NT nl) (NB + m) (Pq (some (.int (ifc (inr nz 41) (ifc (hh + tn nz ≤ 9999) ((hrN (I 66) (I 67) (I 68) (I 70) (I 73) pp (msum I) (mfade I) (lessM (I 65 29)) (mgetH I) (tn nz)).2) (-3)) (-2)))) (ifc (inr nz 41 ∧ hh + tn nz ≤ 9999) (mputH I (hrN (I 66) (I 67) (I 68) (I 70) (I 73) pp (msum I) (mfade I) (lessM (I 65 29)) (mgetH I) (tn nz))) I) L (RT na nt ni) (NT nl) (NB + m)) := by
  refine ct_of (by decide +kernel) (Nat.le_of_ble_eq_true rfl) (fun F hnm hr => ?_)
  clear hnm
  show V g F cX9_pass RX9 2 7 0 [(0, .ref (g.1 + 65)), (1, .int nz)] [] I L (RT na nt ni) (NT nl) (NB + m) 0 0
  refine v_aload_n dX9_pass_0 rfl 0 rfl ?_
  refine v_iload_n dX9_pass_1 rfl 1 rfl ?_
  refine v_callVi (As := [.int nz]) (rest := []) lk_X9_352 (c_X9_isHours nz) dX9_pass_2 rfl (ltn rfl) rfl rfl (Nat.le_of_ble_eq_true rfl) (by decide) ?_
  refine v_ifb_ne (tgt := 11) dX9_pass_5 (by decide) (fun h1 => ?_) (fun h1 => ?_)
  · -- inr nz 41
    obtain ⟨P2, rfl, l3, t4, u5⟩ := inr_ex h1 (by omega)
    refine v_aload_n dX9_pass_11 rfl 0 rfl ?_
    refine v_get (v := .int (I 65 1)) fa_X9_13 dX9_pass_12 rfl (by decide) (ltn rfl) rfl ?_
    refine v_is hhe ?_
    refine v_iload_n dX9_pass_15 rfl 1 rfl ?_
    refine v_iadd dX9_pass_16 ?_
    refine v_is (nx_add rfl rfl) ?_
    refine v_sipush (v := 9999) dX9_pass_17 (by decide) ?_
    refine v_icmp_leN (a := (hh + P2)) (b := 9999) (tgt := 26) dX9_pass_20 (by decide) rfl rfl (by omega) (by omega) (fun h6 => ?_) (fun h6 => ?_)
    · -- (hh + P2) le 9999
      refine v_aload_n dX9_pass_26 rfl 0 rfl ?_
      refine v_iload_n dX9_pass_27 rfl 1 rfl ?_
      refine v_callVqv (As := [.int (nI P2)]) (rest := []) lk_X9_355 (c_X9_goHours P2 (by omega) pp hpp hpe hN hS hG) dX9_pass_28 rfl (ltn rfl) rfl rfl (Nat.le_of_ble_eq_true rfl) (by decide) (fun fq7 hq8 => ?_)
      refine v_aload_n dX9_pass_31 rfl 0 rfl ?_
      refine v_get (v := .int ((scr (mputH I (hrN (I 66) (I 67) (I 68) (I 70) (I 73) pp (msum I) (mfade I) (lessM (I 65 29)) (mgetH I) P2)) fq7 hq8) 65 1)) fa_X9_13 dX9_pass_32 rfl (by decide) (ltn rfl) rfl ?_
      refine v_is (y := (hrN (I 66) (I 67) (I 68) (I 70) (I 73) pp (msum I) (mfade I) (lessM (I 65 29)) (mgetH I) P2).2) (by rfl) ?_
      exact v_iret hr dX9_pass_35 (⟨congrArg (fun z => some (Value.int z)) (by first | rfl | (simp only [bq, ifc_T, ifc_F, inr_m1, and_true, true_and, and_false, false_and, or_true, true_or, or_false, false_or, not_true_eq_false, not_false_eq_true, and_self, or_self, h1, t4, u5, l3, h6]; done) | (simp [bq, ifc_T, ifc_F, inr_m1, h1, t4, u5, l3, h6]; done) | ((try simp only [bq]); repeat (first | rfl | (refine eq_t ?_ ?_; focus (first | omega | assumption | (simp [inr_m1, h1, t4, u5, l3, h6]; done) | (simp [inr_m1, h1, t4, u5, l3, h6]; omega) | (simp only [u5]; omega) | (clear hr; (try clear hkn); simp_all; done))) | (refine eq_f ?_ ?_; focus (first | omega | assumption | (simp [inr_m1, h1, t4, u5, l3, h6]; done) | (simp [inr_m1, h1, t4, u5, l3, h6]; omega) | (simp only [u5]; omega) | (clear hr; (try clear hkn); simp_all; done))) | (simp only [t4]; done) | (exfalso; clear hr; (try clear hkn); simp_all; done)))), ⟨fq7, hq8, (by rw [ifc_t (by first | omega | (simp [*]; done) | (simp [*]; omega))]; simp only [t4])⟩, rfl, rfl, rfl, rfl⟩)
    · -- (hh + P2) gt 9999
      refine v_bipush (v := (-3)) dX9_pass_23 (by decide) ?_
      exact v_iret hr dX9_pass_25 (⟨congrArg (fun z => some (Value.int z)) (by first | rfl | (simp only [bq, ifc_T, ifc_F, inr_m1, and_true, true_and, and_false, false_and, or_true, true_or, or_false, false_or, not_true_eq_false, not_false_eq_true, and_self, or_self, h1, t4, u5, l3, h6]; done) | (simp [bq, ifc_T, ifc_F, inr_m1, h1, t4, u5, l3, h6]; done) | ((try simp only [bq]); repeat (first | rfl | (refine eq_t ?_ ?_; focus (first | omega | assumption | (simp [inr_m1, h1, t4, u5, l3, h6]; done) | (simp [inr_m1, h1, t4, u5, l3, h6]; omega) | (simp only [u5]; omega) | (clear hr; (try clear hkn); simp_all; done))) | (refine eq_f ?_ ?_; focus (first | omega | assumption | (simp [inr_m1, h1, t4, u5, l3, h6]; done) | (simp [inr_m1, h1, t4, u5, l3, h6]; omega) | (simp only [u5]; omega) | (clear hr; (try clear hkn); simp_all; done))) | (simp only [t4]; done) | (exfalso; clear hr; (try clear hkn); simp_all; done)))), ⟨I 83, I 84, (by first | (rw [ifc_f (by first | omega | (simp [*]; done) | (simp [*]; omega))]; exact scr_self I))⟩, rfl, rfl, rfl, rfl⟩)
  · -- not inr nz 41
    refine v_bipush (v := (-2)) dX9_pass_8 (by decide) ?_
    exact v_iret hr dX9_pass_10 (⟨congrArg (fun z => some (Value.int z)) (by first | rfl | (simp only [bq, ifc_T, ifc_F, inr_m1, and_true, true_and, and_false, false_and, or_true, true_or, or_false, false_or, not_true_eq_false, not_false_eq_true, and_self, or_self, h1]; done) | (simp [bq, ifc_T, ifc_F, inr_m1, h1]; done) | ((try simp only [bq]); repeat (first | rfl | (refine eq_t ?_ ?_; focus (first | omega | assumption | (simp [inr_m1, h1]; done) | (simp [inr_m1, h1]; omega) | (clear hr; (try clear hkn); simp_all; done))) | (refine eq_f ?_ ?_; focus (first | omega | assumption | (simp [inr_m1, h1]; done) | (simp [inr_m1, h1]; omega) | (clear hr; (try clear hkn); simp_all; done))) | (exfalso; clear hr; (try clear hkn); simp_all; done)))), ⟨I 83, I 84, (by first | (rw [ifc_f (by first | omega | (simp [*]; done) | (simp [*]; omega))]; exact scr_self I))⟩, rfl, rfl, rfl, rfl⟩)
noncomputable def onV (I : Ty) (pp : Nat) (nz : Nat) (wz : Int32) : Int32 := ifc (wz < 20) ((hrN (I 66) (I 67) (I 68) (I 70) (I 73) pp (msum I) (mfade I) (lessM 2000000000) (mgetH I) nz).1.1 (tn wz - 10)) (ifc (wz < 30) ((hrN (I 66) (I 67) (I 68) (I 70) (I 73) pp (msum I) (mfade I) (lessM 2000000000) (mgetH I) nz).1.2.1 (tn wz - 20)) ((hrN (I 66) (I 67) (I 68) (I 70) (I 73) pp (msum I) (mfade I) (lessM 2000000000) (mgetH I) nz).1.2.2 (tn wz - 30)))
def onC (pp : Nat) (wz : Int32) : Prop := (10 ≤ wz ∧ wz ≤ nI (9 + pp)) ∨ (20 ≤ wz ∧ wz ≤ nI (19 + pp)) ∨ (30 ≤ wz ∧ wz ≤ nI (29 + pp))
set_option maxRecDepth 100000 in
set_option maxHeartbeats 400000 in
theorem c_X9_see {g : Gl} {I : Ty} {L : TL} {na nt ni m : Nat} {nl : Nat → Nat} (pz : Int32) (tz : Int32) (cz : Int32) (pp : Nat) (hpp : pp ≤ 6) (hpe : I 65 0 = nI pp) (sn : Nat) (hsn : sn ≤ 5) (hse : I 65 35 = nI sn) : Ct g yX9_see cX9_see 4 (some .int) 3 0 0 [.ref (g.1 + 65), .int pz, .int tz, .int cz] I L (RT na nt ni) (NT nl) (NB + m) (Ps (some (.int (ifc (pz = -1) 0 (ifc (inr pz pp ∧ inr cz 16) (ifc (inr tz 13) (ifc (sn = 5) (-4) (nI (sn + 1))) (-2)) (-1))))) (ifc (pz = -1) (wr I 65 35 0) (ifc (inr pz pp ∧ inr cz 16 ∧ inr tz 13 ∧ sn ≠ 5) (wr (wr (wr (wr I 89 sn pz) 90 sn tz) 91 sn cz) 65 35 (nI (sn + 1))) I)) L (RT na nt ni) (NT nl) (NB + m)) := by
  refine ct_of (by decide +kernel) (Nat.le_of_ble_eq_true rfl) (fun F hnm hr => ?_)
  clear hnm
  show V g F cX9_see RX9 4 3 0 [(0, .ref (g.1 + 65)), (1, .int pz), (2, .int tz), (3, .int cz)] [] I L (RT na nt ni) (NT nl) (NB + m) 0 0
  refine v_iload_n dX9_see_0 rfl 1 rfl ?_
  refine v_iconst (v := (-1)) dX9_see_1 (by decide) ?_
  refine v_icmp_ne (tgt := 12) dX9_see_2 (by decide) (fun h1 => ?_) (fun h1 => ?_)
  · -- pz ne (-1)
    refine v_aload_n dX9_see_12 rfl 0 rfl ?_
    refine v_iload_n dX9_see_13 rfl 1 rfl ?_
    refine v_callVi (As := [.int pz]) (rest := []) lk_X9_245 (c_X9_isOne pz pp hpp hpe) dX9_see_14 rfl (ltn rfl) rfl rfl (Nat.le_of_ble_eq_true rfl) (by decide) ?_
    refine v_ifb_eq (tgt := 28) dX9_see_17 (by decide) (fun h2 => ?_) (fun h2 => ?_)
    · -- not inr pz pp
      refine v_iconst (v := (-1)) dX9_see_28 (by decide) ?_
      exact v_iret hr dX9_see_29 (psi (by first | rfl | (simp only [bq, ifc_T, ifc_F, inr_m1, and_true, true_and, and_false, false_and, or_true, true_or, or_false, false_or, not_true_eq_false, not_false_eq_true, and_self, or_self, h1, h2]; done) | (simp [bq, ifc_T, ifc_F, inr_m1, h1, h2]; done) | ((try simp only [bq]); repeat (first | rfl | (refine eq_t ?_ ?_; focus (first | omega | assumption | (simp [inr_m1, h1, h2]; done) | (simp [inr_m1, h1, h2]; omega) | (clear hr; (try clear hkn); simp_all; done))) | (refine eq_f ?_ ?_; focus (first | omega | assumption | (simp [inr_m1, h1, h2]; done) | (simp [inr_m1, h1, h2]; omega) | (clear hr; (try clear hkn); simp_all; done))) | (exfalso; clear hr; (try clear hkn); simp_all; done)))) (by first | rfl | (simp only [bq, ifc_T, ifc_F, inr_m1, and_true, true_and, and_false, false_and, or_true, true_or, or_false, false_or, not_true_eq_false, not_false_eq_true, and_self, or_self, h1, h2]; done) | (simp [bq, ifc_T, ifc_F, inr_m1, h1, h2]; done) | ((try simp only [bq]); repeat (first | rfl | (refine eq_t ?_ ?_; focus (first | omega | assumption | (simp [inr_m1, h1, h2]; done) | (simp [inr_m1, h1, h2]; omega) | (clear hr; (try clear hkn); simp_all; done))) | (refine eq_f ?_ ?_; focus (first | omega | assumption | (simp [inr_m1, h1, h2]; done) | (simp [inr_m1, h1, h2]; omega) | (clear hr; (try clear hkn); simp_all; done))) | (exfalso; clear hr; (try clear hkn); simp_all; done)))))
    · -- inr pz pp
      obtain ⟨P3, rfl, l4, t5, u6⟩ := inr_ex h2 (by omega)
      refine v_aload_n dX9_see_20 rfl 0 rfl ?_
      refine v_iload_n dX9_see_21 rfl 3 rfl ?_
      refine v_callVi (As := [.int cz]) (rest := []) lk_X9_241 (c_X9_isCell cz) dX9_see_22 rfl (ltn rfl) rfl rfl (Nat.le_of_ble_eq_true rfl) (by decide) ?_
      refine v_ifb_ne (tgt := 30) dX9_see_25 (by decide) (fun h7 => ?_) (fun h7 => ?_)
      · -- inr cz 16
        obtain ⟨P8, rfl, l9, t10, u11⟩ := inr_ex h7 (by omega)
        refine v_aload_n dX9_see_30 rfl 0 rfl ?_
        refine v_iload_n dX9_see_31 rfl 2 rfl ?_
        refine v_iconst (v := 0) dX9_see_32 (by decide) ?_
        refine v_bipush (v := 12) dX9_see_33 (by decide) ?_
        refine v_callVi (As := [.int tz, .int 0, .int 12]) (rest := []) lk_X9_237 (c_in0 tz 12 (by decide)) dX9_see_35 rfl (ltn rfl) rfl rfl (Nat.le_of_ble_eq_true rfl) (by decide) ?_
        refine v_ifb_ne (tgt := 44) dX9_see_38 (by decide) (fun h12 => ?_) (fun h12 => ?_)
        · -- inr tz 13
          obtain ⟨P13, rfl, l14, t15, u16⟩ := inr_ex h12 (by omega)
          refine v_aload_n dX9_see_44 rfl 0 rfl ?_
          refine v_get (v := .int (I 65 35)) fa_X9_117 dX9_see_45 rfl (by decide) (ltn rfl) rfl ?_
          refine v_is hse ?_
          refine v_iconst (v := 5) dX9_see_48 (by decide) ?_
          refine v_icmp_neN (a := sn) (b := 5) (tgt := 55) dX9_see_49 (by decide) rfl rfl (by omega) (by omega) (fun h17 => ?_) (fun h17 => ?_)
          · -- sn ne 5
            refine v_aload_n dX9_see_55 rfl 0 rfl ?_
            refine v_get (v := .ref (g.1 + 89)) fa_X9_120 dX9_see_56 rfl (by decide) (ltn rfl) rfl ?_
            refine v_aload_n dX9_see_59 rfl 0 rfl ?_
            refine v_get (v := .int (I 65 35)) fa_X9_117 dX9_see_60 rfl (by decide) (ltn rfl) rfl ?_
            refine v_is hse ?_
            refine v_iload_n dX9_see_63 rfl 1 rfl ?_
            refine v_iastore (len := 5) (j := sn) dX9_see_64 rfl (ltn rfl) rfl (by decide) rfl (by omega) ?_
            refine v_aload_n dX9_see_65 rfl 0 rfl ?_
            refine v_get (v := .ref (g.1 + 90)) fa_X9_123 dX9_see_66 rfl (by decide) (ltn rfl) rfl ?_
            refine v_aload_n dX9_see_69 rfl 0 rfl ?_
            refine v_get (v := .int (I 65 35)) fa_X9_117 dX9_see_70 rfl (by decide) (ltn rfl) rfl ?_
            refine v_is hse ?_
            refine v_iload_n dX9_see_73 rfl 2 rfl ?_
            refine v_iastore (len := 5) (j := sn) dX9_see_74 rfl (ltn rfl) rfl (by decide) rfl (by omega) ?_
            refine v_aload_n dX9_see_75 rfl 0 rfl ?_
            refine v_get (v := .ref (g.1 + 91)) fa_X9_126 dX9_see_76 rfl (by decide) (ltn rfl) rfl ?_
            refine v_aload_n dX9_see_79 rfl 0 rfl ?_
            refine v_get (v := .int (I 65 35)) fa_X9_117 dX9_see_80 rfl (by decide) (ltn rfl) rfl ?_
            refine v_is hse ?_
            refine v_iload_n dX9_see_83 rfl 3 rfl ?_
            refine v_iastore (len := 5) (j := sn) dX9_see_84 rfl (ltn rfl) rfl (by decide) rfl (by omega) ?_
            refine v_aload_n dX9_see_85 rfl 0 rfl ?_
            refine v_dup dX9_see_86 rfl ?_
            refine v_get (v := .int (I 65 35)) fa_X9_117 dX9_see_87 rfl (by decide) (ltn rfl) rfl ?_
            refine v_is hse ?_
            refine v_iconst (v := 1) dX9_see_90 (by decide) ?_
            refine v_iadd dX9_see_91 ?_
            refine v_is (nx_add rfl rfl) ?_
            refine v_puti pa_X9_117 dX9_see_92 rfl (by decide) (ltn rfl) (by show 35 < 73; decide) rfl ?_
            refine v_aload_n dX9_see_95 rfl 0 rfl ?_
            refine v_get (v := .int (nI (sn + 1))) fa_X9_117 dX9_see_96 rfl (by decide) (ltn rfl) rfl ?_
            exact v_iret hr dX9_see_99 (psi (by first | rfl | (simp only [bq, ifc_T, ifc_F, inr_m1, and_true, true_and, and_false, false_and, or_true, true_or, or_false, false_or, not_true_eq_false, not_false_eq_true, and_self, or_self, h1, h2, t5, u6, l4, h7, t10, u11, l9, h12, t15, u16, l14, h17]; done) | (simp [bq, ifc_T, ifc_F, inr_m1, h1, h2, t5, u6, l4, h7, t10, u11, l9, h12, t15, u16, l14, h17]; done) | ((try simp only [bq]); repeat (first | rfl | (refine eq_t ?_ ?_; focus (first | omega | assumption | (simp [inr_m1, h1, h2, t5, u6, l4, h7, t10, u11, l9, h12, t15, u16, l14, h17]; done) | (simp [inr_m1, h1, h2, t5, u6, l4, h7, t10, u11, l9, h12, t15, u16, l14, h17]; omega) | (simp only [u6, u11, u16]; omega) | (clear hr; (try clear hkn); simp_all; done))) | (refine eq_f ?_ ?_; focus (first | omega | assumption | (simp [inr_m1, h1, h2, t5, u6, l4, h7, t10, u11, l9, h12, t15, u16, l14, h17]; done) | (simp [inr_m1, h1, h2, t5, u6, l4, h7, t10, u11, l9, h12, t15, u16, l14, h17]; omega) | (simp only [u6, u11, u16]; omega) | (clear hr; (try clear hkn); simp_all; done))) | (simp only [t5, t10, t15]; done) | (exfalso; clear hr; (try clear hkn); simp_all; done)))) (by first | rfl | (simp only [bq, ifc_T, ifc_F, inr_m1, and_true, true_and, and_false, false_and, or_true, true_or, or_false, false_or, not_true_eq_false, not_false_eq_true, and_self, or_self, h1, h2, t5, u6, l4, h7, t10, u11, l9, h12, t15, u16, l14, h17]; done) | (simp [bq, ifc_T, ifc_F, inr_m1, h1, h2, t5, u6, l4, h7, t10, u11, l9, h12, t15, u16, l14, h17]; done) | ((try simp only [bq]); repeat (first | rfl | (refine eq_t ?_ ?_; focus (first | omega | assumption | (simp [inr_m1, h1, h2, t5, u6, l4, h7, t10, u11, l9, h12, t15, u16, l14, h17]; done) | (simp [inr_m1, h1, h2, t5, u6, l4, h7, t10, u11, l9, h12, t15, u16, l14, h17]; omega) | (simp only [u6, u11, u16]; omega) | (clear hr; (try clear hkn); simp_all; done))) | (refine eq_f ?_ ?_; focus (first | omega | assumption | (simp [inr_m1, h1, h2, t5, u6, l4, h7, t10, u11, l9, h12, t15, u16, l14, h17]; done) | (simp [inr_m1, h1, h2, t5, u6, l4, h7, t10, u11, l9, h12, t15, u16, l14, h17]; omega) | (simp only [u6, u11, u16]; omega) | (clear hr; (try clear hkn); simp_all; done))) | (simp only [t5, t10, t15]; done) | (exfalso; clear hr; (try clear hkn); simp_all; done)))))
          · -- sn eq 5
            refine v_bipush (v := (-4)) dX9_see_52 (by decide) ?_
            exact v_iret hr dX9_see_54 (psi (by first | rfl | (simp only [bq, ifc_T, ifc_F, inr_m1, and_true, true_and, and_false, false_and, or_true, true_or, or_false, false_or, not_true_eq_false, not_false_eq_true, and_self, or_self, h1, h2, t5, u6, l4, h7, t10, u11, l9, h12, t15, u16, l14, h17]; done) | (simp [bq, ifc_T, ifc_F, inr_m1, h1, h2, t5, u6, l4, h7, t10, u11, l9, h12, t15, u16, l14, h17]; done) | ((try simp only [bq]); repeat (first | rfl | (refine eq_t ?_ ?_; focus (first | omega | assumption | (simp [inr_m1, h1, h2, t5, u6, l4, h7, t10, u11, l9, h12, t15, u16, l14, h17]; done) | (simp [inr_m1, h1, h2, t5, u6, l4, h7, t10, u11, l9, h12, t15, u16, l14, h17]; omega) | (simp only [u6, u11, u16]; omega) | (clear hr; (try clear hkn); simp_all; done))) | (refine eq_f ?_ ?_; focus (first | omega | assumption | (simp [inr_m1, h1, h2, t5, u6, l4, h7, t10, u11, l9, h12, t15, u16, l14, h17]; done) | (simp [inr_m1, h1, h2, t5, u6, l4, h7, t10, u11, l9, h12, t15, u16, l14, h17]; omega) | (simp only [u6, u11, u16]; omega) | (clear hr; (try clear hkn); simp_all; done))) | (simp only [t5, t10, t15]; done) | (exfalso; clear hr; (try clear hkn); simp_all; done)))) (by first | rfl | (simp only [bq, ifc_T, ifc_F, inr_m1, and_true, true_and, and_false, false_and, or_true, true_or, or_false, false_or, not_true_eq_false, not_false_eq_true, and_self, or_self, h1, h2, t5, u6, l4, h7, t10, u11, l9, h12, t15, u16, l14, h17]; done) | (simp [bq, ifc_T, ifc_F, inr_m1, h1, h2, t5, u6, l4, h7, t10, u11, l9, h12, t15, u16, l14, h17]; done) | ((try simp only [bq]); repeat (first | rfl | (refine eq_t ?_ ?_; focus (first | omega | assumption | (simp [inr_m1, h1, h2, t5, u6, l4, h7, t10, u11, l9, h12, t15, u16, l14, h17]; done) | (simp [inr_m1, h1, h2, t5, u6, l4, h7, t10, u11, l9, h12, t15, u16, l14, h17]; omega) | (simp only [u6, u11, u16]; omega) | (clear hr; (try clear hkn); simp_all; done))) | (refine eq_f ?_ ?_; focus (first | omega | assumption | (simp [inr_m1, h1, h2, t5, u6, l4, h7, t10, u11, l9, h12, t15, u16, l14, h17]; done) | (simp [inr_m1, h1, h2, t5, u6, l4, h7, t10, u11, l9, h12, t15, u16, l14, h17]; omega) | (simp only [u6, u11, u16]; omega) | (clear hr; (try clear hkn); simp_all; done))) | (simp only [t5, t10, t15]; done) | (exfalso; clear hr; (try clear hkn); simp_all; done)))))
        · -- not inr tz 13
          refine v_bipush (v := (-2)) dX9_see_41 (by decide) ?_
          exact v_iret hr dX9_see_43 (psi (by first | rfl | (simp only [bq, ifc_T, ifc_F, inr_m1, and_true, true_and, and_false, false_and, or_true, true_or, or_false, false_or, not_true_eq_false, not_false_eq_true, and_self, or_self, h1, h2, t5, u6, l4, h7, t10, u11, l9, h12]; done) | (simp [bq, ifc_T, ifc_F, inr_m1, h1, h2, t5, u6, l4, h7, t10, u11, l9, h12]; done) | ((try simp only [bq]); repeat (first | rfl | (refine eq_t ?_ ?_; focus (first | omega | assumption | (simp [inr_m1, h1, h2, t5, u6, l4, h7, t10, u11, l9, h12]; done) | (simp [inr_m1, h1, h2, t5, u6, l4, h7, t10, u11, l9, h12]; omega) | (simp only [u6, u11]; omega) | (clear hr; (try clear hkn); simp_all; done))) | (refine eq_f ?_ ?_; focus (first | omega | assumption | (simp [inr_m1, h1, h2, t5, u6, l4, h7, t10, u11, l9, h12]; done) | (simp [inr_m1, h1, h2, t5, u6, l4, h7, t10, u11, l9, h12]; omega) | (simp only [u6, u11]; omega) | (clear hr; (try clear hkn); simp_all; done))) | (simp only [t5, t10]; done) | (exfalso; clear hr; (try clear hkn); simp_all; done)))) (by first | rfl | (simp only [bq, ifc_T, ifc_F, inr_m1, and_true, true_and, and_false, false_and, or_true, true_or, or_false, false_or, not_true_eq_false, not_false_eq_true, and_self, or_self, h1, h2, t5, u6, l4, h7, t10, u11, l9, h12]; done) | (simp [bq, ifc_T, ifc_F, inr_m1, h1, h2, t5, u6, l4, h7, t10, u11, l9, h12]; done) | ((try simp only [bq]); repeat (first | rfl | (refine eq_t ?_ ?_; focus (first | omega | assumption | (simp [inr_m1, h1, h2, t5, u6, l4, h7, t10, u11, l9, h12]; done) | (simp [inr_m1, h1, h2, t5, u6, l4, h7, t10, u11, l9, h12]; omega) | (simp only [u6, u11]; omega) | (clear hr; (try clear hkn); simp_all; done))) | (refine eq_f ?_ ?_; focus (first | omega | assumption | (simp [inr_m1, h1, h2, t5, u6, l4, h7, t10, u11, l9, h12]; done) | (simp [inr_m1, h1, h2, t5, u6, l4, h7, t10, u11, l9, h12]; omega) | (simp only [u6, u11]; omega) | (clear hr; (try clear hkn); simp_all; done))) | (simp only [t5, t10]; done) | (exfalso; clear hr; (try clear hkn); simp_all; done)))))
      · -- not inr cz 16
        refine v_iconst (v := (-1)) dX9_see_28 (by decide) ?_
        exact v_iret hr dX9_see_29 (psi (by first | rfl | (simp only [bq, ifc_T, ifc_F, inr_m1, and_true, true_and, and_false, false_and, or_true, true_or, or_false, false_or, not_true_eq_false, not_false_eq_true, and_self, or_self, h1, h2, t5, u6, l4, h7]; done) | (simp [bq, ifc_T, ifc_F, inr_m1, h1, h2, t5, u6, l4, h7]; done) | ((try simp only [bq]); repeat (first | rfl | (refine eq_t ?_ ?_; focus (first | omega | assumption | (simp [inr_m1, h1, h2, t5, u6, l4, h7]; done) | (simp [inr_m1, h1, h2, t5, u6, l4, h7]; omega) | (simp only [u6]; omega) | (clear hr; (try clear hkn); simp_all; done))) | (refine eq_f ?_ ?_; focus (first | omega | assumption | (simp [inr_m1, h1, h2, t5, u6, l4, h7]; done) | (simp [inr_m1, h1, h2, t5, u6, l4, h7]; omega) | (simp only [u6]; omega) | (clear hr; (try clear hkn); simp_all; done))) | (simp only [t5]; done) | (exfalso; clear hr; (try clear hkn); simp_all; done)))) (by first | rfl | (simp only [bq, ifc_T, ifc_F, inr_m1, and_true, true_and, and_false, false_and, or_true, true_or, or_false, false_or, not_true_eq_false, not_false_eq_true, and_self, or_self, h1, h2, t5, u6, l4, h7]; done) | (simp [bq, ifc_T, ifc_F, inr_m1, h1, h2, t5, u6, l4, h7]; done) | ((try simp only [bq]); repeat (first | rfl | (refine eq_t ?_ ?_; focus (first | omega | assumption | (simp [inr_m1, h1, h2, t5, u6, l4, h7]; done) | (simp [inr_m1, h1, h2, t5, u6, l4, h7]; omega) | (simp only [u6]; omega) | (clear hr; (try clear hkn); simp_all; done))) | (refine eq_f ?_ ?_; focus (first | omega | assumption | (simp [inr_m1, h1, h2, t5, u6, l4, h7]; done) | (simp [inr_m1, h1, h2, t5, u6, l4, h7]; omega) | (simp only [u6]; omega) | (clear hr; (try clear hkn); simp_all; done))) | (simp only [t5]; done) | (exfalso; clear hr; (try clear hkn); simp_all; done)))))
  · -- pz eq (-1)
    refine v_aload_n dX9_see_5 rfl 0 rfl ?_
    refine v_iconst (v := 0) dX9_see_6 (by decide) ?_
    refine v_puti pa_X9_117 dX9_see_7 rfl (by decide) (ltn rfl) (by show 35 < 73; decide) rfl ?_
    refine v_iconst (v := 0) dX9_see_10 (by decide) ?_
    exact v_iret hr dX9_see_11 (psi (by first | rfl | (simp only [bq, ifc_T, ifc_F, inr_m1, and_true, true_and, and_false, false_and, or_true, true_or, or_false, false_or, not_true_eq_false, not_false_eq_true, and_self, or_self, h1]; done) | (simp [bq, ifc_T, ifc_F, inr_m1, h1]; done) | ((try simp only [bq]); repeat (first | rfl | (refine eq_t ?_ ?_; focus (first | omega | assumption | (simp [inr_m1, h1]; done) | (simp [inr_m1, h1]; omega) | (clear hr; (try clear hkn); simp_all; done))) | (refine eq_f ?_ ?_; focus (first | omega | assumption | (simp [inr_m1, h1]; done) | (simp [inr_m1, h1]; omega) | (clear hr; (try clear hkn); simp_all; done))) | (exfalso; clear hr; (try clear hkn); simp_all; done)))) (by first | rfl | (simp only [bq, ifc_T, ifc_F, inr_m1, and_true, true_and, and_false, false_and, or_true, true_or, or_false, false_or, not_true_eq_false, not_false_eq_true, and_self, or_self, h1]; done) | (simp [bq, ifc_T, ifc_F, inr_m1, h1]; done) | ((try simp only [bq]); repeat (first | rfl | (refine eq_t ?_ ?_; focus (first | omega | assumption | (simp [inr_m1, h1]; done) | (simp [inr_m1, h1]; omega) | (clear hr; (try clear hkn); simp_all; done))) | (refine eq_f ?_ ?_; focus (first | omega | assumption | (simp [inr_m1, h1]; done) | (simp [inr_m1, h1]; omega) | (clear hr; (try clear hkn); simp_all; done))) | (exfalso; clear hr; (try clear hkn); simp_all; done)))))
set_option maxRecDepth 100000 in
set_option maxHeartbeats 400000 in
theorem c_X9_book {g : Gl} {I : Ty} {L : TL} {na nt ni m : Nat} {nl : Nat → Nat} (pz : Int32) (xz : Int32) (pp : Nat) (hpp : pp ≤ 6) (hpe : I 65 0 = nI pp) (bn : Nat) (hbn : bn ≤ 8) (hbe : I 65 40 = nI bn) : Ct g yX9_book cX9_book 3 (some .int) 3 0 0 [.ref (g.1 + 65), .int pz, .int xz] I L (RT na nt ni) (NT nl) (NB + m) (Ps (some (.int (ifc (pz = -1) 0 (ifc (inr pz pp) (ifc (inr xz 65536) (ifc (bn = 8) (-4) (nI (bn + 1))) (-2)) (-1))))) (ifc (pz = -1) (wr I 65 40 0) (ifc (inr pz pp ∧ inr xz 65536 ∧ bn ≠ 8) (wr (wr (wr I 94 bn pz) 95 bn xz) 65 40 (nI (bn + 1))) I)) L (RT na nt ni) (NT nl) (NB + m)) := by
  refine ct_of (by decide +kernel) (Nat.le_of_ble_eq_true rfl) (fun F hnm hr => ?_)
  clear hnm
  show V g F cX9_book RX9 3 3 0 [(0, .ref (g.1 + 65)), (1, .int pz), (2, .int xz)] [] I L (RT na nt ni) (NT nl) (NB + m) 0 0
  refine v_iload_n dX9_book_0 rfl 1 rfl ?_
  refine v_iconst (v := (-1)) dX9_book_1 (by decide) ?_
  refine v_icmp_ne (tgt := 12) dX9_book_2 (by decide) (fun h1 => ?_) (fun h1 => ?_)
  · -- pz ne (-1)
    refine v_aload_n dX9_book_12 rfl 0 rfl ?_
    refine v_iload_n dX9_book_13 rfl 1 rfl ?_
    refine v_callVi (As := [.int pz]) (rest := []) lk_X9_245 (c_X9_isOne pz pp hpp hpe) dX9_book_14 rfl (ltn rfl) rfl rfl (Nat.le_of_ble_eq_true rfl) (by decide) ?_
    refine v_ifb_ne (tgt := 22) dX9_book_17 (by decide) (fun h2 => ?_) (fun h2 => ?_)
    · -- inr pz pp
      obtain ⟨P3, rfl, l4, t5, u6⟩ := inr_ex h2 (by omega)
      refine v_aload_n dX9_book_22 rfl 0 rfl ?_
      refine v_iload_n dX9_book_23 rfl 2 rfl ?_
      refine v_iconst (v := 0) dX9_book_24 (by decide) ?_
      refine v_ldc dX9_book_25 uc_X9_248 ?_
      refine v_callVi (As := [.int xz, .int 0, .int 65535]) (rest := []) lk_X9_237 (c_in0 xz 65535 (by decide)) dX9_book_27 rfl (ltn rfl) rfl rfl (Nat.le_of_ble_eq_true rfl) (by decide) ?_
      refine v_ifb_ne (tgt := 36) dX9_book_30 (by decide) (fun h7 => ?_) (fun h7 => ?_)
      · -- inr xz 65536
        obtain ⟨P8, rfl, l9, t10, u11⟩ := inr_ex h7 (by omega)
        refine v_aload_n dX9_book_36 rfl 0 rfl ?_
        refine v_get (v := .int (I 65 40)) fa_X9_132 dX9_book_37 rfl (by decide) (ltn rfl) rfl ?_
        refine v_is hbe ?_
        refine v_bipush (v := 8) dX9_book_40 (by decide) ?_
        refine v_icmp_neN (a := bn) (b := 8) (tgt := 48) dX9_book_42 (by decide) rfl rfl (by omega) (by omega) (fun h12 => ?_) (fun h12 => ?_)
        · -- bn ne 8
          refine v_aload_n dX9_book_48 rfl 0 rfl ?_
          refine v_get (v := .ref (g.1 + 94)) fa_X9_141 dX9_book_49 rfl (by decide) (ltn rfl) rfl ?_
          refine v_aload_n dX9_book_52 rfl 0 rfl ?_
          refine v_get (v := .int (I 65 40)) fa_X9_132 dX9_book_53 rfl (by decide) (ltn rfl) rfl ?_
          refine v_is hbe ?_
          refine v_iload_n dX9_book_56 rfl 1 rfl ?_
          refine v_iastore (len := 8) (j := bn) dX9_book_57 rfl (ltn rfl) rfl (by decide) rfl (by omega) ?_
          refine v_aload_n dX9_book_58 rfl 0 rfl ?_
          refine v_get (v := .ref (g.1 + 95)) fa_X9_144 dX9_book_59 rfl (by decide) (ltn rfl) rfl ?_
          refine v_aload_n dX9_book_62 rfl 0 rfl ?_
          refine v_get (v := .int (I 65 40)) fa_X9_132 dX9_book_63 rfl (by decide) (ltn rfl) rfl ?_
          refine v_is hbe ?_
          refine v_iload_n dX9_book_66 rfl 2 rfl ?_
          refine v_iastore (len := 8) (j := bn) dX9_book_67 rfl (ltn rfl) rfl (by decide) rfl (by omega) ?_
          refine v_aload_n dX9_book_68 rfl 0 rfl ?_
          refine v_dup dX9_book_69 rfl ?_
          refine v_get (v := .int (I 65 40)) fa_X9_132 dX9_book_70 rfl (by decide) (ltn rfl) rfl ?_
          refine v_is hbe ?_
          refine v_iconst (v := 1) dX9_book_73 (by decide) ?_
          refine v_iadd dX9_book_74 ?_
          refine v_is (nx_add rfl rfl) ?_
          refine v_puti pa_X9_132 dX9_book_75 rfl (by decide) (ltn rfl) (by show 40 < 73; decide) rfl ?_
          refine v_aload_n dX9_book_78 rfl 0 rfl ?_
          refine v_get (v := .int (nI (bn + 1))) fa_X9_132 dX9_book_79 rfl (by decide) (ltn rfl) rfl ?_
          exact v_iret hr dX9_book_82 (psi (by first | rfl | (simp only [bq, ifc_T, ifc_F, inr_m1, and_true, true_and, and_false, false_and, or_true, true_or, or_false, false_or, not_true_eq_false, not_false_eq_true, and_self, or_self, h1, h2, t5, u6, l4, h7, t10, u11, l9, h12]; done) | (simp [bq, ifc_T, ifc_F, inr_m1, h1, h2, t5, u6, l4, h7, t10, u11, l9, h12]; done) | ((try simp only [bq]); repeat (first | rfl | (refine eq_t ?_ ?_; focus (first | omega | assumption | (simp [inr_m1, h1, h2, t5, u6, l4, h7, t10, u11, l9, h12]; done) | (simp [inr_m1, h1, h2, t5, u6, l4, h7, t10, u11, l9, h12]; omega) | (simp only [u6, u11]; omega) | (clear hr; (try clear hkn); simp_all; done))) | (refine eq_f ?_ ?_; focus (first | omega | assumption | (simp [inr_m1, h1, h2, t5, u6, l4, h7, t10, u11, l9, h12]; done) | (simp [inr_m1, h1, h2, t5, u6, l4, h7, t10, u11, l9, h12]; omega) | (simp only [u6, u11]; omega) | (clear hr; (try clear hkn); simp_all; done))) | (simp only [t5, t10]; done) | (exfalso; clear hr; (try clear hkn); simp_all; done)))) (by first | rfl | (simp only [bq, ifc_T, ifc_F, inr_m1, and_true, true_and, and_false, false_and, or_true, true_or, or_false, false_or, not_true_eq_false, not_false_eq_true, and_self, or_self, h1, h2, t5, u6, l4, h7, t10, u11, l9, h12]; done) | (simp [bq, ifc_T, ifc_F, inr_m1, h1, h2, t5, u6, l4, h7, t10, u11, l9, h12]; done) | ((try simp only [bq]); repeat (first | rfl | (refine eq_t ?_ ?_; focus (first | omega | assumption | (simp [inr_m1, h1, h2, t5, u6, l4, h7, t10, u11, l9, h12]; done) | (simp [inr_m1, h1, h2, t5, u6, l4, h7, t10, u11, l9, h12]; omega) | (simp only [u6, u11]; omega) | (clear hr; (try clear hkn); simp_all; done))) | (refine eq_f ?_ ?_; focus (first | omega | assumption | (simp [inr_m1, h1, h2, t5, u6, l4, h7, t10, u11, l9, h12]; done) | (simp [inr_m1, h1, h2, t5, u6, l4, h7, t10, u11, l9, h12]; omega) | (simp only [u6, u11]; omega) | (clear hr; (try clear hkn); simp_all; done))) | (simp only [t5, t10]; done) | (exfalso; clear hr; (try clear hkn); simp_all; done)))))
        · -- bn eq 8
          refine v_bipush (v := (-4)) dX9_book_45 (by decide) ?_
          exact v_iret hr dX9_book_47 (psi (by first | rfl | (simp only [bq, ifc_T, ifc_F, inr_m1, and_true, true_and, and_false, false_and, or_true, true_or, or_false, false_or, not_true_eq_false, not_false_eq_true, and_self, or_self, h1, h2, t5, u6, l4, h7, t10, u11, l9, h12]; done) | (simp [bq, ifc_T, ifc_F, inr_m1, h1, h2, t5, u6, l4, h7, t10, u11, l9, h12]; done) | ((try simp only [bq]); repeat (first | rfl | (refine eq_t ?_ ?_; focus (first | omega | assumption | (simp [inr_m1, h1, h2, t5, u6, l4, h7, t10, u11, l9, h12]; done) | (simp [inr_m1, h1, h2, t5, u6, l4, h7, t10, u11, l9, h12]; omega) | (simp only [u6, u11]; omega) | (clear hr; (try clear hkn); simp_all; done))) | (refine eq_f ?_ ?_; focus (first | omega | assumption | (simp [inr_m1, h1, h2, t5, u6, l4, h7, t10, u11, l9, h12]; done) | (simp [inr_m1, h1, h2, t5, u6, l4, h7, t10, u11, l9, h12]; omega) | (simp only [u6, u11]; omega) | (clear hr; (try clear hkn); simp_all; done))) | (simp only [t5, t10]; done) | (exfalso; clear hr; (try clear hkn); simp_all; done)))) (by first | rfl | (simp only [bq, ifc_T, ifc_F, inr_m1, and_true, true_and, and_false, false_and, or_true, true_or, or_false, false_or, not_true_eq_false, not_false_eq_true, and_self, or_self, h1, h2, t5, u6, l4, h7, t10, u11, l9, h12]; done) | (simp [bq, ifc_T, ifc_F, inr_m1, h1, h2, t5, u6, l4, h7, t10, u11, l9, h12]; done) | ((try simp only [bq]); repeat (first | rfl | (refine eq_t ?_ ?_; focus (first | omega | assumption | (simp [inr_m1, h1, h2, t5, u6, l4, h7, t10, u11, l9, h12]; done) | (simp [inr_m1, h1, h2, t5, u6, l4, h7, t10, u11, l9, h12]; omega) | (simp only [u6, u11]; omega) | (clear hr; (try clear hkn); simp_all; done))) | (refine eq_f ?_ ?_; focus (first | omega | assumption | (simp [inr_m1, h1, h2, t5, u6, l4, h7, t10, u11, l9, h12]; done) | (simp [inr_m1, h1, h2, t5, u6, l4, h7, t10, u11, l9, h12]; omega) | (simp only [u6, u11]; omega) | (clear hr; (try clear hkn); simp_all; done))) | (simp only [t5, t10]; done) | (exfalso; clear hr; (try clear hkn); simp_all; done)))))
      · -- not inr xz 65536
        refine v_bipush (v := (-2)) dX9_book_33 (by decide) ?_
        exact v_iret hr dX9_book_35 (psi (by first | rfl | (simp only [bq, ifc_T, ifc_F, inr_m1, and_true, true_and, and_false, false_and, or_true, true_or, or_false, false_or, not_true_eq_false, not_false_eq_true, and_self, or_self, h1, h2, t5, u6, l4, h7]; done) | (simp [bq, ifc_T, ifc_F, inr_m1, h1, h2, t5, u6, l4, h7]; done) | ((try simp only [bq]); repeat (first | rfl | (refine eq_t ?_ ?_; focus (first | omega | assumption | (simp [inr_m1, h1, h2, t5, u6, l4, h7]; done) | (simp [inr_m1, h1, h2, t5, u6, l4, h7]; omega) | (simp only [u6]; omega) | (clear hr; (try clear hkn); simp_all; done))) | (refine eq_f ?_ ?_; focus (first | omega | assumption | (simp [inr_m1, h1, h2, t5, u6, l4, h7]; done) | (simp [inr_m1, h1, h2, t5, u6, l4, h7]; omega) | (simp only [u6]; omega) | (clear hr; (try clear hkn); simp_all; done))) | (simp only [t5]; done) | (exfalso; clear hr; (try clear hkn); simp_all; done)))) (by first | rfl | (simp only [bq, ifc_T, ifc_F, inr_m1, and_true, true_and, and_false, false_and, or_true, true_or, or_false, false_or, not_true_eq_false, not_false_eq_true, and_self, or_self, h1, h2, t5, u6, l4, h7]; done) | (simp [bq, ifc_T, ifc_F, inr_m1, h1, h2, t5, u6, l4, h7]; done) | ((try simp only [bq]); repeat (first | rfl | (refine eq_t ?_ ?_; focus (first | omega | assumption | (simp [inr_m1, h1, h2, t5, u6, l4, h7]; done) | (simp [inr_m1, h1, h2, t5, u6, l4, h7]; omega) | (simp only [u6]; omega) | (clear hr; (try clear hkn); simp_all; done))) | (refine eq_f ?_ ?_; focus (first | omega | assumption | (simp [inr_m1, h1, h2, t5, u6, l4, h7]; done) | (simp [inr_m1, h1, h2, t5, u6, l4, h7]; omega) | (simp only [u6]; omega) | (clear hr; (try clear hkn); simp_all; done))) | (simp only [t5]; done) | (exfalso; clear hr; (try clear hkn); simp_all; done)))))
    · -- not inr pz pp
      refine v_iconst (v := (-1)) dX9_book_20 (by decide) ?_
      exact v_iret hr dX9_book_21 (psi (by first | rfl | (simp only [bq, ifc_T, ifc_F, inr_m1, and_true, true_and, and_false, false_and, or_true, true_or, or_false, false_or, not_true_eq_false, not_false_eq_true, and_self, or_self, h1, h2]; done) | (simp [bq, ifc_T, ifc_F, inr_m1, h1, h2]; done) | ((try simp only [bq]); repeat (first | rfl | (refine eq_t ?_ ?_; focus (first | omega | assumption | (simp [inr_m1, h1, h2]; done) | (simp [inr_m1, h1, h2]; omega) | (clear hr; (try clear hkn); simp_all; done))) | (refine eq_f ?_ ?_; focus (first | omega | assumption | (simp [inr_m1, h1, h2]; done) | (simp [inr_m1, h1, h2]; omega) | (clear hr; (try clear hkn); simp_all; done))) | (exfalso; clear hr; (try clear hkn); simp_all; done)))) (by first | rfl | (simp only [bq, ifc_T, ifc_F, inr_m1, and_true, true_and, and_false, false_and, or_true, true_or, or_false, false_or, not_true_eq_false, not_false_eq_true, and_self, or_self, h1, h2]; done) | (simp [bq, ifc_T, ifc_F, inr_m1, h1, h2]; done) | ((try simp only [bq]); repeat (first | rfl | (refine eq_t ?_ ?_; focus (first | omega | assumption | (simp [inr_m1, h1, h2]; done) | (simp [inr_m1, h1, h2]; omega) | (clear hr; (try clear hkn); simp_all; done))) | (refine eq_f ?_ ?_; focus (first | omega | assumption | (simp [inr_m1, h1, h2]; done) | (simp [inr_m1, h1, h2]; omega) | (clear hr; (try clear hkn); simp_all; done))) | (exfalso; clear hr; (try clear hkn); simp_all; done)))))
  · -- pz eq (-1)
    refine v_aload_n dX9_book_5 rfl 0 rfl ?_
    refine v_iconst (v := 0) dX9_book_6 (by decide) ?_
    refine v_puti pa_X9_132 dX9_book_7 rfl (by decide) (ltn rfl) (by show 40 < 73; decide) rfl ?_
    refine v_iconst (v := 0) dX9_book_10 (by decide) ?_
    exact v_iret hr dX9_book_11 (psi (by first | rfl | (simp only [bq, ifc_T, ifc_F, inr_m1, and_true, true_and, and_false, false_and, or_true, true_or, or_false, false_or, not_true_eq_false, not_false_eq_true, and_self, or_self, h1]; done) | (simp [bq, ifc_T, ifc_F, inr_m1, h1]; done) | ((try simp only [bq]); repeat (first | rfl | (refine eq_t ?_ ?_; focus (first | omega | assumption | (simp [inr_m1, h1]; done) | (simp [inr_m1, h1]; omega) | (clear hr; (try clear hkn); simp_all; done))) | (refine eq_f ?_ ?_; focus (first | omega | assumption | (simp [inr_m1, h1]; done) | (simp [inr_m1, h1]; omega) | (clear hr; (try clear hkn); simp_all; done))) | (exfalso; clear hr; (try clear hkn); simp_all; done)))) (by first | rfl | (simp only [bq, ifc_T, ifc_F, inr_m1, and_true, true_and, and_false, false_and, or_true, true_or, or_false, false_or, not_true_eq_false, not_false_eq_true, and_self, or_self, h1]; done) | (simp [bq, ifc_T, ifc_F, inr_m1, h1]; done) | ((try simp only [bq]); repeat (first | rfl | (refine eq_t ?_ ?_; focus (first | omega | assumption | (simp [inr_m1, h1]; done) | (simp [inr_m1, h1]; omega) | (clear hr; (try clear hkn); simp_all; done))) | (refine eq_f ?_ ?_; focus (first | omega | assumption | (simp [inr_m1, h1]; done) | (simp [inr_m1, h1]; omega) | (clear hr; (try clear hkn); simp_all; done))) | (exfalso; clear hr; (try clear hkn); simp_all; done)))))
