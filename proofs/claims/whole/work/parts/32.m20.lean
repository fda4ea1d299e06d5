def rz (I : Ty) (pp : Nat) : Nat → Ty
  | 0 => I
  | i + 1 => wr (rz I pp i) 73 (4 * pp + i) 0
theorem rz_off (I : Ty) (pp : Nat) : ∀ i a, a ≠ 73 → rz I pp i a = I a
  | 0, _, _ => rfl
  | i + 1, a, h => (up_off _ _ h).trans (rz_off I pp i a h)
def mTrav (I : Ty) (pp : Nat) (k n c : Int32) : Ty := wr (rz (wr (wr (wr (wr (wr (wr I 67 pp k) 68 pp n) 69 pp c) 70 pp (-5)) 71 pp 0) 72 pp 0) pp 4) 65 0 (nI (pp + 1))
set_option maxRecDepth 100000 in
set_option maxHeartbeats 1000000 in
theorem c_X9_traveller {g : Gl} {I : Ty} {L : TL} {na nt ni m : Nat} {nl : Nat → Nat} (kz : Int32) (nz : Int32) (cz : Int32) (pp : Nat) (hpp : pp ≤ 6) (hpe : I 65 0 = nI pp) : Ct g yX9_traveller cX9_traveller 5 (some .int) 3 0 0 [.ref (g.1 + 65), .int kz, .int nz, .int cz] I L (RT na nt ni) (NT nl) (NB + m) (Ps (some (.int (ifc (inr kz 7 ∧ inr cz 16) (ifc (inr nz 10) (ifc (pp = 6) (-4) (nI pp)) (-2)) (-1)))) (ifc (inr kz 7 ∧ inr cz 16 ∧ inr nz 10 ∧ pp ≠ 6) (mTrav I pp kz nz cz) I) L (RT na nt ni) (NT nl) (NB + m)) := by
  refine ct_of (by decide +kernel) (Nat.le_of_ble_eq_true rfl) (fun F hnm hr => ?_)
  clear hnm
  show V g F cX9_traveller RX9 5 3 0 [(0, .ref (g.1 + 65)), (1, .int kz), (2, .int nz), (3, .int cz)] [] I L (RT na nt ni) (NT nl) (NB + m) 0 0
  refine v_aload_n dX9_traveller_0 rfl 0 rfl ?_
  refine v_iload_n dX9_traveller_1 rfl 1 rfl ?_
  refine v_iconst (v := 0) dX9_traveller_2 (by decide) ?_
  refine v_bipush (v := 6) dX9_traveller_3 (by decide) ?_
  refine v_callVi (As := [.int kz, .int 0, .int 6]) (rest := []) lk_X9_237 (c_in0 kz 6 (by decide)) dX9_traveller_5 rfl (ltn rfl) rfl rfl (Nat.le_of_ble_eq_true rfl) (by decide) ?_
  refine v_ifb_eq (tgt := 19) dX9_traveller_8 (by decide) (fun h1 => ?_) (fun h1 => ?_)
  · -- not inr kz 7
    refine v_iconst (v := (-1)) dX9_traveller_19 (by decide) ?_
    exact v_iret hr dX9_traveller_20 (psi (by first | rfl | (simp only [bq, ifc_T, ifc_F, inr_m1, and_true, true_and, and_false, false_and, or_true, true_or, or_false, false_or, not_true_eq_false, not_false_eq_true, and_self, or_self, h1, mTrav]; done) | (simp [bq, ifc_T, ifc_F, inr_m1, h1, mTrav]; done) | ((try simp only [bq, mTrav]); repeat (first | rfl | (refine eq_t ?_ ?_; focus (first | omega | assumption | (simp [inr_m1, h1]; done) | (simp [inr_m1, h1]; omega) | (clear hr; (try clear hkn); simp_all; done))) | (refine eq_f ?_ ?_; focus (first | omega | assumption | (simp [inr_m1, h1]; done) | (simp [inr_m1, h1]; omega) | (clear hr; (try clear hkn); simp_all; done))) | (exfalso; clear hr; (try clear hkn); simp_all; done)))) (by first | rfl | (simp only [bq, ifc_T, ifc_F, inr_m1, and_true, true_and, and_false, false_and, or_true, true_or, or_false, false_or, not_true_eq_false, not_false_eq_true, and_self, or_self, h1, mTrav]; done) | (simp [bq, ifc_T, ifc_F, inr_m1, h1, mTrav]; done) | ((try simp only [bq, mTrav]); repeat (first | rfl | (refine eq_t ?_ ?_; focus (first | omega | assumption | (simp [inr_m1, h1]; done) | (simp [inr_m1, h1]; omega) | (clear hr; (try clear hkn); simp_all; done))) | (refine eq_f ?_ ?_; focus (first | omega | assumption | (simp [inr_m1, h1]; done) | (simp [inr_m1, h1]; omega) | (clear hr; (try clear hkn); simp_all; done))) | (exfalso; clear hr; (try clear hkn); simp_all; done)))))
  · -- inr kz 7
    obtain ⟨P2, rfl, l3, t4, u5⟩ := inr_ex h1 (by omega)
    refine v_aload_n dX9_traveller_11 rfl 0 rfl ?_
    refine v_iload_n dX9_traveller_12 rfl 3 rfl ?_
    refine v_callVi (As := [.int cz]) (rest := []) lk_X9_241 (c_X9_isCell cz) dX9_traveller_13 rfl (ltn rfl) rfl rfl (Nat.le_of_ble_eq_true rfl) (by decide) ?_
    refine v_ifb_ne (tgt := 21) dX9_traveller_16 (by decide) (fun h6 => ?_) (fun h6 => ?_)
    · -- inr cz 16
      obtain ⟨P7, rfl, l8, t9, u10⟩ := inr_ex h6 (by omega)
      refine v_aload_n dX9_traveller_21 rfl 0 rfl ?_
      refine v_iload_n dX9_traveller_22 rfl 2 rfl ?_
      refine v_iconst (v := 0) dX9_traveller_23 (by decide) ?_
      refine v_bipush (v := 9) dX9_traveller_24 (by decide) ?_
      refine v_callVi (As := [.int nz, .int 0, .int 9]) (rest := []) lk_X9_237 (c_in0 nz 9 (by decide)) dX9_traveller_26 rfl (ltn rfl) rfl rfl (Nat.le_of_ble_eq_true rfl) (by decide) ?_
      refine v_ifb_ne (tgt := 35) dX9_traveller_29 (by decide) (fun h11 => ?_) (fun h11 => ?_)
      · -- inr nz 10
        obtain ⟨P12, rfl, l13, t14, u15⟩ := inr_ex h11 (by omega)
        refine v_aload_n dX9_traveller_35 rfl 0 rfl ?_
        refine v_get (v := .int (I 65 0)) fa_X9_7 dX9_traveller_36 rfl (by decide) (ltn rfl) rfl ?_
        refine v_is hpe ?_
        refine v_bipush (v := 6) dX9_traveller_39 (by decide) ?_
        refine v_icmp_neN (a := pp) (b := 6) (tgt := 47) dX9_traveller_41 (by decide) rfl rfl (by omega) (by omega) (fun h16 => ?_) (fun h16 => ?_)
        · -- pp ne 6
          refine v_aload_n dX9_traveller_47 rfl 0 rfl ?_
          refine v_get (v := .ref (g.1 + 67)) fa_X9_20 dX9_traveller_48 rfl (by decide) (ltn rfl) rfl ?_
          refine v_aload_n dX9_traveller_51 rfl 0 rfl ?_
          refine v_get (v := .int (I 65 0)) fa_X9_7 dX9_traveller_52 rfl (by decide) (ltn rfl) rfl ?_
          refine v_is hpe ?_
          refine v_iload_n dX9_traveller_55 rfl 1 rfl ?_
          refine v_iastore (len := 6) (j := pp) dX9_traveller_56 rfl (ltn rfl) rfl (by decide) rfl (by omega) ?_
          refine v_aload_n dX9_traveller_57 rfl 0 rfl ?_
          refine v_get (v := .ref (g.1 + 68)) fa_X9_23 dX9_traveller_58 rfl (by decide) (ltn rfl) rfl ?_
          refine v_aload_n dX9_traveller_61 rfl 0 rfl ?_
          refine v_get (v := .int (I 65 0)) fa_X9_7 dX9_traveller_62 rfl (by decide) (ltn rfl) rfl ?_
          refine v_is hpe ?_
          refine v_iload_n dX9_traveller_65 rfl 2 rfl ?_
          refine v_iastore (len := 6) (j := pp) dX9_traveller_66 rfl (ltn rfl) rfl (by decide) rfl (by omega) ?_
          refine v_aload_n dX9_traveller_67 rfl 0 rfl ?_
          refine v_get (v := .ref (g.1 + 69)) fa_X9_26 dX9_traveller_68 rfl (by decide) (ltn rfl) rfl ?_
          refine v_aload_n dX9_traveller_71 rfl 0 rfl ?_
          refine v_get (v := .int (I 65 0)) fa_X9_7 dX9_traveller_72 rfl (by decide) (ltn rfl) rfl ?_
          refine v_is hpe ?_
          refine v_iload_n dX9_traveller_75 rfl 3 rfl ?_
          refine v_iastore (len := 6) (j := pp) dX9_traveller_76 rfl (ltn rfl) rfl (by decide) rfl (by omega) ?_
          refine v_aload_n dX9_traveller_77 rfl 0 rfl ?_
          refine v_get (v := .ref (g.1 + 70)) fa_X9_29 dX9_traveller_78 rfl (by decide) (ltn rfl) rfl ?_
          refine v_aload_n dX9_traveller_81 rfl 0 rfl ?_
          refine v_get (v := .int (I 65 0)) fa_X9_7 dX9_traveller_82 rfl (by decide) (ltn rfl) rfl ?_
          refine v_is hpe ?_
          refine v_bipush (v := (-5)) dX9_traveller_85 (by decide) ?_
          refine v_iastore (len := 6) (j := pp) dX9_traveller_87 rfl (ltn rfl) rfl (by decide) rfl (by omega) ?_
          refine v_aload_n dX9_traveller_88 rfl 0 rfl ?_
          refine v_get (v := .ref (g.1 + 71)) fa_X9_32 dX9_traveller_89 rfl (by decide) (ltn rfl) rfl ?_
          refine v_aload_n dX9_traveller_92 rfl 0 rfl ?_
          refine v_get (v := .int (I 65 0)) fa_X9_7 dX9_traveller_93 rfl (by decide) (ltn rfl) rfl ?_
          refine v_is hpe ?_
          refine v_iconst (v := 0) dX9_traveller_96 (by decide) ?_
          refine v_iastore (len := 6) (j := pp) dX9_traveller_97 rfl (ltn rfl) rfl (by decide) rfl (by omega) ?_
          refine v_aload_n dX9_traveller_98 rfl 0 rfl ?_
          refine v_get (v := .ref (g.1 + 72)) fa_X9_35 dX9_traveller_99 rfl (by decide) (ltn rfl) rfl ?_
          refine v_aload_n dX9_traveller_102 rfl 0 rfl ?_
          refine v_get (v := .int (I 65 0)) fa_X9_7 dX9_traveller_103 rfl (by decide) (ltn rfl) rfl ?_
          refine v_is hpe ?_
          refine v_iconst (v := 0) dX9_traveller_106 (by decide) ?_
          refine v_iastore (len := 6) (j := pp) dX9_traveller_107 rfl (ltn rfl) rfl (by decide) rfl (by omega) ?_
          refine v_iconst (v := 0) dX9_traveller_108 (by decide) ?_
          refine v_istore (lv2 := [(4, .int 0), (0, .ref (g.1 + 65)), (1, .int (nI P2)), (2, .int (nI P12)), (3, .int (nI P7))]) dX9_traveller_109 (by decide) rfl ?_
          refine v_lv (lv2 := [(4, .int (nI 0)), (0, .ref (g.1 + 65)), (1, .int (nI P2)), (2, .int (nI P12)), (3, .int (nI P7))]) (by rfl) ?_
          refine v_I (I2 := (rz (wr (wr (wr (wr (wr (wr I 67 pp (nI P2)) 68 pp (nI P12)) 69 pp (nI P7)) 70 pp (-5)) 71 pp 0) 72 pp 0) pp 0)) (by rfl) ?_
          refine dloop (P := fun i => V g F cX9_traveller RX9 5 3 111 [(4, .int (nI i)), (0, .ref (g.1 + 65)), (1, .int (nI P2)), (2, .int (nI P12)), (3, .int (nI P7))] [] (rz (wr (wr (wr (wr (wr (wr I 67 pp (nI P2)) 68 pp (nI P12)) 69 pp (nI P7)) 70 pp (-5)) 71 pp 0) 72 pp 0) pp i) L (RT na nt ni) (NT nl) (NB + m) 0 0) 4 ?_ ?_ 0 (Nat.zero_le _)
          · refine v_iload dX9_traveller_111 0 rfl ?_
            refine v_iconst (v := 4) dX9_traveller_113 (by decide) ?_
            refine v_icmp_geN (a := 4) (b := 4) (tgt := 138) dX9_traveller_114 (by decide) rfl rfl (by omega) (by omega) (fun h17 => ?_) (fun h => by exfalso; omega)
            refine v_aload_n dX9_traveller_138 rfl 1 rfl ?_
            refine v_dup dX9_traveller_139 rfl ?_
            refine v_get (v := .int ((rz (wr (wr (wr (wr (wr (wr I 67 pp (nI P2)) 68 pp (nI P12)) 69 pp (nI P7)) 70 pp (-5)) 71 pp 0) 72 pp 0) pp 4) 65 0)) fa_X9_7 dX9_traveller_140 rfl (by decide) (ltn rfl) rfl ?_
            refine v_is (y := I 65 0) (by rw [rz_off _ _ _ _ (by decide)]; rfl) ?_
            refine v_is hpe ?_
            refine v_iconst (v := 1) dX9_traveller_143 (by decide) ?_
            refine v_iadd dX9_traveller_144 ?_
            refine v_is (nx_add rfl rfl) ?_
            refine v_puti pa_X9_7 dX9_traveller_145 rfl (by decide) (ltn rfl) (by show 0 < 73; decide) rfl ?_
            refine v_aload_n dX9_traveller_148 rfl 1 rfl ?_
            refine v_get (v := .int (nI (pp + 1))) fa_X9_7 dX9_traveller_149 rfl (by decide) (ltn rfl) rfl ?_
            refine v_iconst (v := 1) dX9_traveller_152 (by decide) ?_
            refine v_isub dX9_traveller_153 ?_
            refine v_is (nx_sub (a := (pp + 1)) (b := 1) rfl rfl (by omega)) ?_
            exact v_iret hr dX9_traveller_154 (psi (by first | rfl | (simp only [bq, ifc_T, ifc_F, inr_m1, and_true, true_and, and_false, false_and, or_true, true_or, or_false, false_or, not_true_eq_false, not_false_eq_true, and_self, or_self, h1, t4, u5, l3, h6, t9, u10, l8, h11, t14, u15, l13, h16, h17, mTrav]; done) | (simp [bq, ifc_T, ifc_F, inr_m1, h1, t4, u5, l3, h6, t9, u10, l8, h11, t14, u15, l13, h16, h17, mTrav]; done) | ((try simp only [bq, mTrav]); repeat (first | rfl | (refine eq_t ?_ ?_; focus (first | omega | assumption | (simp [inr_m1, h1, t4, u5, l3, h6, t9, u10, l8, h11, t14, u15, l13, h16, h17]; done) | (simp [inr_m1, h1, t4, u5, l3, h6, t9, u10, l8, h11, t14, u15, l13, h16, h17]; omega) | (simp only [u5, u10, u15]; omega) | (clear hr; (try clear hkn); simp_all; done))) | (refine eq_f ?_ ?_; focus (first | omega | assumption | (simp [inr_m1, h1, t4, u5, l3, h6, t9, u10, l8, h11, t14, u15, l13, h16, h17]; done) | (simp [inr_m1, h1, t4, u5, l3, h6, t9, u10, l8, h11, t14, u15, l13, h16, h17]; omega) | (simp only [u5, u10, u15]; omega) | (clear hr; (try clear hkn); simp_all; done))) | (simp only [t4, t9, t14]; done) | (exfalso; clear hr; (try clear hkn); simp_all; done)))) (by first | rfl | (simp only [bq, ifc_T, ifc_F, inr_m1, and_true, true_and, and_false, false_and, or_true, true_or, or_false, false_or, not_true_eq_false, not_false_eq_true, and_self, or_self, h1, t4, u5, l3, h6, t9, u10, l8, h11, t14, u15, l13, h16, h17, mTrav]; done) | (simp [bq, ifc_T, ifc_F, inr_m1, h1, t4, u5, l3, h6, t9, u10, l8, h11, t14, u15, l13, h16, h17, mTrav]; done) | ((try simp only [bq, mTrav]); repeat (first | rfl | (refine eq_t ?_ ?_; focus (first | omega | assumption | (simp [inr_m1, h1, t4, u5, l3, h6, t9, u10, l8, h11, t14, u15, l13, h16, h17]; done) | (simp [inr_m1, h1, t4, u5, l3, h6, t9, u10, l8, h11, t14, u15, l13, h16, h17]; omega) | (simp only [u5, u10, u15]; omega) | (clear hr; (try clear hkn); simp_all; done))) | (refine eq_f ?_ ?_; focus (first | omega | assumption | (simp [inr_m1, h1, t4, u5, l3, h6, t9, u10, l8, h11, t14, u15, l13, h16, h17]; done) | (simp [inr_m1, h1, t4, u5, l3, h6, t9, u10, l8, h11, t14, u15, l13, h16, h17]; omega) | (simp only [u5, u10, u15]; omega) | (clear hr; (try clear hkn); simp_all; done))) | (simp only [t4, t9, t14]; done) | (exfalso; clear hr; (try clear hkn); simp_all; done)))))
          · intro i hi ih
            refine v_iload dX9_traveller_111 0 rfl ?_
            refine v_iconst (v := 4) dX9_traveller_113 (by decide) ?_
            refine v_icmp_geN (a := i) (b := 4) (tgt := 138) dX9_traveller_114 (by decide) rfl rfl (by omega) (by omega) (fun h => by exfalso; omega) (fun h18 => ?_)
            refine v_aload_n dX9_traveller_117 rfl 1 rfl ?_
            refine v_get (v := .ref (g.1 + 73)) fa_X9_38 dX9_traveller_118 rfl (by decide) (ltn rfl) rfl ?_
            refine v_iconst (v := 4) dX9_traveller_121 (by decide) ?_
            refine v_aload_n dX9_traveller_122 rfl 1 rfl ?_
            refine v_get (v := .int ((rz (wr (wr (wr (wr (wr (wr I 67 pp (nI P2)) 68 pp (nI P12)) 69 pp (nI P7)) 70 pp (-5)) 71 pp 0) 72 pp 0) pp i) 65 0)) fa_X9_7 dX9_traveller_123 rfl (by decide) (ltn rfl) rfl ?_
            refine v_is (y := I 65 0) (by rw [rz_off _ _ _ _ (by decide)]; rfl) ?_
            refine v_is hpe ?_
            refine v_imul dX9_traveller_126 ?_
            refine v_is (nx_mul rfl rfl) ?_
            refine v_iload dX9_traveller_127 0 rfl ?_
            refine v_iadd dX9_traveller_129 ?_
            refine v_is (nx_add rfl rfl) ?_
            refine v_iconst (v := 0) dX9_traveller_130 (by decide) ?_
            refine v_iastore (len := 24) (j := ((4 * pp) + i)) dX9_traveller_131 rfl (ltn rfl) rfl (by decide) rfl (by omega) ?_
            refine v_inc (v := nI (i + 1)) (lv2 := [(4, .int (nI (i + 1))), (0, .ref (g.1 + 65)), (1, .int (nI P2)), (2, .int (nI P12)), (3, .int (nI P7))]) dX9_traveller_132 0 rfl (nx_inc rfl) (by decide) rfl ?_
            refine v_goto (tgt := 111) dX9_traveller_135 (by decide) ?_
            refine v_I (I2 := (rz (wr (wr (wr (wr (wr (wr I 67 pp (nI P2)) 68 pp (nI P12)) 69 pp (nI P7)) 70 pp (-5)) 71 pp 0) 72 pp 0) pp (i + 1))) (by rfl) ?_
            exact ih
        · -- pp eq 6
          refine v_bipush (v := (-4)) dX9_traveller_44 (by decide) ?_
          exact v_iret hr dX9_traveller_46 (psi (by first | rfl | (simp only [bq, ifc_T, ifc_F, inr_m1, and_true, true_and, and_false, false_and, or_true, true_or, or_false, false_or, not_true_eq_false, not_false_eq_true, and_self, or_self, h1, t4, u5, l3, h6, t9, u10, l8, h11, t14, u15, l13, h16, mTrav]; done) | (simp [bq, ifc_T, ifc_F, inr_m1, h1, t4, u5, l3, h6, t9, u10, l8, h11, t14, u15, l13, h16, mTrav]; done) | ((try simp only [bq, mTrav]); repeat (first | rfl | (refine eq_t ?_ ?_; focus (first | omega | assumption | (simp [inr_m1, h1, t4, u5, l3, h6, t9, u10, l8, h11, t14, u15, l13, h16]; done) | (simp [inr_m1, h1, t4, u5, l3, h6, t9, u10, l8, h11, t14, u15, l13, h16]; omega) | (simp only [u5, u10, u15]; omega) | (clear hr; (try clear hkn); simp_all; done))) | (refine eq_f ?_ ?_; focus (first | omega | assumption | (simp [inr_m1, h1, t4, u5, l3, h6, t9, u10, l8, h11, t14, u15, l13, h16]; done) | (simp [inr_m1, h1, t4, u5, l3, h6, t9, u10, l8, h11, t14, u15, l13, h16]; omega) | (simp only [u5, u10, u15]; omega) | (clear hr; (try clear hkn); simp_all; done))) | (simp only [t4, t9, t14]; done) | (exfalso; clear hr; (try clear hkn); simp_all; done)))) (by first | rfl | (simp only [bq, ifc_T, ifc_F, inr_m1, and_true, true_and, and_false, false_and, or_true, true_or, or_false, false_or, not_true_eq_false, not_false_eq_true, and_self, or_self, h1, t4, u5, l3, h6, t9, u10, l8, h11, t14, u15, l13, h16, mTrav]; done) | (simp [bq, ifc_T, ifc_F, inr_m1, h1, t4, u5, l3, h6, t9, u10, l8, h11, t14, u15, l13, h16, mTrav]; done) | ((try simp only [bq, mTrav]); repeat (first | rfl | (refine eq_t ?_ ?_; focus (first | omega | assumption | (simp [inr_m1, h1, t4, u5, l3, h6, t9, u10, l8, h11, t14, u15, l13, h16]; done) | (simp [inr_m1, h1, t4, u5, l3, h6, t9, u10, l8, h11, t14, u15, l13, h16]; omega) | (simp only [u5, u10, u15]; omega) | (clear hr; (try clear hkn); simp_all; done))) | (refine eq_f ?_ ?_; focus (first | omega | assumption | (simp [inr_m1, h1, t4, u5, l3, h6, t9, u10, l8, h11, t14, u15, l13, h16]; done) | (simp [inr_m1, h1, t4, u5, l3, h6, t9, u10, l8, h11, t14, u15, l13, h16]; omega) | (simp only [u5, u10, u15]; omega) | (clear hr; (try clear hkn); simp_all; done))) | (simp only [t4, t9, t14]; done) | (exfalso; clear hr; (try clear hkn); simp_all; done)))))
      · -- not inr nz 10
        refine v_bipush (v := (-2)) dX9_traveller_32 (by decide) ?_
        exact v_iret hr dX9_traveller_34 (psi (by first | rfl | (simp only [bq, ifc_T, ifc_F, inr_m1, and_true, true_and, and_false, false_and, or_true, true_or, or_false, false_or, not_true_eq_false, not_false_eq_true, and_self, or_self, h1, t4, u5, l3, h6, t9, u10, l8, h11, mTrav]; done) | (simp [bq, ifc_T, ifc_F, inr_m1, h1, t4, u5, l3, h6, t9, u10, l8, h11, mTrav]; done) | ((try simp only [bq, mTrav]); repeat (first | rfl | (refine eq_t ?_ ?_; focus (first | omega | assumption | (simp [inr_m1, h1, t4, u5, l3, h6, t9, u10, l8, h11]; done) | (simp [inr_m1, h1, t4, u5, l3, h6, t9, u10, l8, h11]; omega) | (simp only [u5, u10]; omega) | (clear hr; (try clear hkn); simp_all; done))) | (refine eq_f ?_ ?_; focus (first | omega | assumption | (simp [inr_m1, h1, t4, u5, l3, h6, t9, u10, l8, h11]; done) | (simp [inr_m1, h1, t4, u5, l3, h6, t9, u10, l8, h11]; omega) | (simp only [u5, u10]; omega) | (clear hr; (try clear hkn); simp_all; done))) | (simp only [t4, t9]; done) | (exfalso; clear hr; (try clear hkn); simp_all; done)))) (by first | rfl | (simp only [bq, ifc_T, ifc_F, inr_m1, and_true, true_and, and_false, false_and, or_true, true_or, or_false, false_or, not_true_eq_false, not_false_eq_true, and_self, or_self, h1, t4, u5, l3, h6, t9, u10, l8, h11, mTrav]; done) | (simp [bq, ifc_T, ifc_F, inr_m1, h1, t4, u5, l3, h6, t9, u10, l8, h11, mTrav]; done) | ((try simp only [bq, mTrav]); repeat (first | rfl | (refine eq_t ?_ ?_; focus (first | omega | assumption | (simp [inr_m1, h1, t4, u5, l3, h6, t9, u10, l8, h11]; done) | (simp [inr_m1, h1, t4, u5, l3, h6, t9, u10, l8, h11]; omega) | (simp only [u5, u10]; omega) | (clear hr; (try clear hkn); simp_all; done))) | (refine eq_f ?_ ?_; focus (first | omega | assumption | (simp [inr_m1, h1, t4, u5, l3, h6, t9, u10, l8, h11]; done) | (simp [inr_m1, h1, t4, u5, l3, h6, t9, u10, l8, h11]; omega) | (simp only [u5, u10]; omega) | (clear hr; (try clear hkn); simp_all; done))) | (simp only [t4, t9]; done) | (exfalso; clear hr; (try clear hkn); simp_all; done)))))
    · -- not inr cz 16
      refine v_iconst (v := (-1)) dX9_traveller_19 (by decide) ?_
      exact v_iret hr dX9_traveller_20 (psi (by first | rfl | (simp only [bq, ifc_T, ifc_F, inr_m1, and_true, true_and, and_false, false_and, or_true, true_or, or_false, false_or, not_true_eq_false, not_false_eq_true, and_self, or_self, h1, t4, u5, l3, h6, mTrav]; done) | (simp [bq, ifc_T, ifc_F, inr_m1, h1, t4, u5, l3, h6, mTrav]; done) | ((try simp only [bq, mTrav]); repeat (first | rfl | (refine eq_t ?_ ?_; focus (first | omega | assumption | (simp [inr_m1, h1, t4, u5, l3, h6]; done) | (simp [inr_m1, h1, t4, u5, l3, h6]; omega) | (simp only [u5]; omega) | (clear hr; (try clear hkn); simp_all; done))) | (refine eq_f ?_ ?_; focus (first | omega | assumption | (simp [inr_m1, h1, t4, u5, l3, h6]; done) | (simp [inr_m1, h1, t4, u5, l3, h6]; omega) | (simp only [u5]; omega) | (clear hr; (try clear hkn); simp_all; done))) | (simp only [t4]; done) | (exfalso; clear hr; (try clear hkn); simp_all; done)))) (by first | rfl | (simp only [bq, ifc_T, ifc_F, inr_m1, and_true, true_and, and_false, false_and, or_true, true_or, or_false, false_or, not_true_eq_false, not_false_eq_true, and_self, or_self, h1, t4, u5, l3, h6, mTrav]; done) | (simp [bq, ifc_T, ifc_F, inr_m1, h1, t4, u5, l3, h6, mTrav]; done) | ((try simp only [bq, mTrav]); repeat (first | rfl | (refine eq_t ?_ ?_; focus (first | omega | assumption | (simp [inr_m1, h1, t4, u5, l3, h6]; done) | (simp [inr_m1, h1, t4, u5, l3, h6]; omega) | (simp only [u5]; omega) | (clear hr; (try clear hkn); simp_all; done))) | (refine eq_f ?_ ?_; focus (first | omega | assumption | (simp [inr_m1, h1, t4, u5, l3, h6]; done) | (simp [inr_m1, h1, t4, u5, l3, h6]; omega) | (simp only [u5]; omega) | (clear hr; (try clear hkn); simp_all; done))) | (simp only [t4]; done) | (exfalso; clear hr; (try clear hkn); simp_all; done)))))
noncomputable def lookV (ch bw bc : Nat → Int32) (bn : Nat) : Int32 := ifc (frst (fun k => ¬ ch (tn (bw k)) = bc k) bn = bn) (-5) (nI (frst (fun k => ¬ ch (tn (bw k)) = bc k) bn))
set_option maxRecDepth 100000 in
set_option maxHeartbeats 400000 in
theorem c_X9_looked {g : Gl} {I : Ty} {L : TL} {na nt ni m : Nat} {nl : Nat → Nat}  (bn : Nat) (hbn : bn ≤ 8) (hbe : I 65 40 = nI bn) (hbw : ∀ k, k < bn → ∃ x, x < 6 ∧ I 94 k = nI x) : Ct g yX9_looked cX9_looked 2 (some .int) 0 0 0 [.ref (g.1 + 65)] I L (RT na nt ni) (NT nl) (NB + m) (Ps (some (.int (lookV (I 71) (I 94) (I 95) bn))) (I) L (RT na nt ni) (NT nl) (NB + m)) := by
  refine ct_of (by decide +kernel) (Nat.le_of_ble_eq_true rfl) (fun F hnm hr => ?_)
  clear hnm
  show V g F cX9_looked RX9 2 0 0 [(0, .ref (g.1 + 65))] [] I L (RT na nt ni) (NT nl) (NB + m) 0 0
  refine v_iconst (v := 0) dX9_looked_0 (by decide) ?_
  refine v_istore_n (lv2 := [(1, .int 0), (0, .ref (g.1 + 65))]) dX9_looked_1 rfl (by decide) rfl ?_
  refine v_lv (lv2 := [(1, .int (nI 0)), (0, .ref (g.1 + 65))]) (by rfl) ?_
  refine dloop (P := fun i => (∀ j, j < i → ¬ (¬ I 71 (tn (I 94 j)) = I 95 j)) → V g F cX9_looked RX9 2 0 2 [(1, .int (nI i)), (0, .ref (g.1 + 65))] [] I L (RT na nt ni) (NT nl) (NB + m) 0 0) bn ?_ ?_ 0 (Nat.zero_le _) (fun j h => absurd h (Nat.not_lt_zero j))
  · intro hinv
    refine v_iload_n dX9_looked_2 rfl 0 rfl ?_
    refine v_aload_n dX9_looked_3 rfl 1 rfl ?_
    refine v_get (v := .int (I 65 40)) fa_X9_132 dX9_looked_4 rfl (by decide) (ltn rfl) rfl ?_
    refine v_is hbe ?_
    refine v_icmp_geN (a := bn) (b := bn) (tgt := 38) dX9_looked_7 (by decide) rfl rfl (by omega) (by omega) (fun h1 => ?_) (fun h => by exfalso; omega)
    refine v_bipush (v := (-5)) dX9_looked_38 (by decide) ?_
    exact v_iret hr dX9_looked_40 (psi (by unfold lookV; rw [frst_eq (i := bn) (Nat.le_refl _) (Or.inl rfl) hinv, ifc_t rfl]) rfl)
  · intro i hi ih
    intro hinv
    obtain ⟨uz, huz, hue⟩ := hbw i hi
    have huu : tn (I 94 i) = uz := by rw [hue, tn_nI (by omega)]
    refine v_iload_n dX9_looked_2 rfl 0 rfl ?_
    refine v_aload_n dX9_looked_3 rfl 1 rfl ?_
    refine v_get (v := .int (I 65 40)) fa_X9_132 dX9_looked_4 rfl (by decide) (ltn rfl) rfl ?_
    refine v_is hbe ?_
    refine v_icmp_geN (a := i) (b := bn) (tgt := 38) dX9_looked_7 (by decide) rfl rfl (by omega) (by omega) (fun h => by exfalso; omega) (fun h2 => ?_)
    refine v_aload_n dX9_looked_10 rfl 1 rfl ?_
    refine v_get (v := .ref (g.1 + 71)) fa_X9_32 dX9_looked_11 rfl (by decide) (ltn rfl) rfl ?_
    refine v_aload_n dX9_looked_14 rfl 1 rfl ?_
    refine v_get (v := .ref (g.1 + 94)) fa_X9_141 dX9_looked_15 rfl (by decide) (ltn rfl) rfl ?_
    refine v_iload_n dX9_looked_18 rfl 0 rfl ?_
    refine v_iaload (len := 8) (j := i) dX9_looked_19 rfl (ltn rfl) rfl (by decide) rfl (by omega) ?_
    refine v_is (y := nI uz) hue ?_
    refine v_iaload (len := 6) (j := uz) dX9_looked_20 rfl (ltn rfl) rfl (by decide) rfl (by omega) ?_
    refine v_aload_n dX9_looked_21 rfl 1 rfl ?_
    refine v_get (v := .ref (g.1 + 95)) fa_X9_144 dX9_looked_22 rfl (by decide) (ltn rfl) rfl ?_
    refine v_iload_n dX9_looked_25 rfl 0 rfl ?_
    refine v_iaload (len := 8) (j := i) dX9_looked_26 rfl (ltn rfl) rfl (by decide) rfl (by omega) ?_
    refine v_icmp_eq (tgt := 32) dX9_looked_27 (by decide) (fun h3 => ?_) (fun h3 => ?_)
    · -- I 71 uz eq I 95 i
      refine v_inc (v := nI (i + 1)) (lv2 := [(1, .int (nI (i + 1))), (0, .ref (g.1 + 65))]) dX9_looked_32 0 rfl (nx_inc rfl) (by decide) rfl ?_
      refine v_goto (tgt := 2) dX9_looked_35 (by decide) ?_
      exact ih (ks_step hinv (fun z => z (by rw [huu]; exact h3)))
    · -- I 71 uz ne I 95 i
      refine v_iload_n dX9_looked_30 rfl 0 rfl ?_
      exact v_iret hr dX9_looked_31 (psi (by unfold lookV; rw [frst_eq (i := i) (by omega) (Or.inr (by rw [huu]; exact h3)) hinv, ifc_f (by omega)]) rfl)
def planC (pp : Nat) (wz nz : Int32) : Prop := inr wz 4 ∧ ¬ (tn wz % 2 = 1 ∧ ¬ inr nz pp) ∧ ¬ (tn wz = 2 ∧ (nz < 0 ∨ ¬ inr (nz / 10) pp ∨ ¬ inr (nz - nz / 10 * 10) pp))
set_option maxRecDepth 100000 in
set_option maxHeartbeats 2000000 in
theorem c_X9_plan {g : Gl} {I : Ty} {L : TL} {na nt ni m : Nat} {nl : Nat → Nat} (wz : Int32) (nz : Int32) (pp : Nat) (hpp : pp ≤ 6) (hpe : I 65 0 = nI pp) (pn : Nat) (hpl : pn ≤ 8) (hpn : I 65 39 = nI pn) : Ct g yX9_plan cX9_plan 3 (some .int) 3 0 0 [.ref (g.1 + 65), .int wz, .int nz] I L (RT na nt ni) (NT nl) (NB + m) (Ps (some (.int (ifc (wz = -1) 0 (ifc (planC pp wz nz) (ifc (pn = 8) (-4) (nI (pn + 1))) (-1))))) (ifc (wz = -1) (wr I 65 39 0) (ifc (planC pp wz nz ∧ pn ≠ 8) (ifc (0 < tn wz) (wr (wr (wr I 92 pn wz) 93 pn nz) 65 39 (nI (pn + 1))) (wr (wr (wr I 92 pn wz) 93 pn 0) 65 39 (nI (pn + 1)))) I)) L (RT na nt ni) (NT nl) (NB + m)) := by
  refine ct_of (by decide +kernel) (Nat.le_of_ble_eq_true rfl) (fun F hnm hr => ?_)
  clear hnm
  show V g F cX9_plan RX9 3 3 0 [(0, .ref (g.1 + 65)), (1, .int wz), (2, .int nz)] [] I L (RT na nt ni) (NT nl) (NB + m) 0 0
  refine v_iload_n dX9_plan_0 rfl 1 rfl ?_
  refine v_iconst (v := (-1)) dX9_plan_1 (by decide) ?_
  refine v_icmp_ne (tgt := 12) dX9_plan_2 (by decide) (fun h1 => ?_) (fun h1 => ?_)
  · -- wz ne (-1)
    refine v_aload_n dX9_plan_12 rfl 0 rfl ?_
    refine v_iload_n dX9_plan_13 rfl 1 rfl ?_
    refine v_iconst (v := 0) dX9_plan_14 (by decide) ?_
    refine v_iconst (v := 3) dX9_plan_15 (by decide) ?_
    refine v_callVi (As := [.int wz, .int 0, .int 3]) (rest := []) lk_X9_237 (c_in0 wz 3 (by decide)) dX9_plan_16 rfl (ltn rfl) rfl rfl (Nat.le_of_ble_eq_true rfl) (by decide) ?_
    refine v_ifb_eq (tgt := 68) dX9_plan_19 (by decide) (fun h2 => ?_) (fun h2 => ?_)
    · -- not inr wz 4
      refine v_iconst (v := (-1)) dX9_plan_68 (by decide) ?_
      exact v_iret hr dX9_plan_69 (psi (by first | rfl | (simp only [bq, ifc_T, ifc_F, inr_m1, and_true, true_and, and_false, false_and, or_true, true_or, or_false, false_or, not_true_eq_false, not_false_eq_true, and_self, or_self, h1, h2, planC]; done) | (simp [bq, ifc_T, ifc_F, inr_m1, h1, h2, planC]; done) | ((try simp only [bq, planC]); repeat (first | rfl | (refine eq_t ?_ ?_; focus (first | omega | assumption | (simp [inr_m1, h1, h2]; done) | (simp [inr_m1, h1, h2]; omega) | (clear hr; (try clear hkn); simp_all; done))) | (refine eq_f ?_ ?_; focus (first | omega | assumption | (simp [inr_m1, h1, h2]; done) | (simp [inr_m1, h1, h2]; omega) | (clear hr; (try clear hkn); simp_all; done))) | (exfalso; clear hr; (try clear hkn); simp_all; done)))) (by first | rfl | (simp only [bq, ifc_T, ifc_F, inr_m1, and_true, true_and, and_false, false_and, or_true, true_or, or_false, false_or, not_true_eq_false, not_false_eq_true, and_self, or_self, h1, h2, planC]; done) | (simp [bq, ifc_T, ifc_F, inr_m1, h1, h2, planC]; done) | ((try simp only [bq, planC]); repeat (first | rfl | (refine eq_t ?_ ?_; focus (first | omega | assumption | (simp [inr_m1, h1, h2]; done) | (simp [inr_m1, h1, h2]; omega) | (clear hr; (try clear hkn); simp_all; done))) | (refine eq_f ?_ ?_; focus (first | omega | assumption | (simp [inr_m1, h1, h2]; done) | (simp [inr_m1, h1, h2]; omega) | (clear hr; (try clear hkn); simp_all; done))) | (exfalso; clear hr; (try clear hkn); simp_all; done)))))
    · -- inr wz 4
      obtain ⟨P3, rfl, l4, t5, u6⟩ := inr_ex h2 (by omega)
      refine v_iload_n dX9_plan_22 rfl 1 rfl ?_
      refine v_iconst (v := 2) dX9_plan_23 (by decide) ?_
      refine v_irem dX9_plan_24 (by decide) ?_
      refine v_is (nx_rem rfl (d := 2) (by omega) (by decide) (by decide)) ?_
      refine v_iconst (v := 1) dX9_plan_25 (by decide) ?_
      refine v_icmp_neN (a := (P3 % 2)) (b := 1) (tgt := 37) dX9_plan_26 (by decide) rfl rfl (by omega) (by omega) (fun h7 => ?_) (fun h7 => ?_)
      · -- (P3 % 2) ne 1
        refine v_iload_n dX9_plan_37 rfl 1 rfl ?_
        refine v_iconst (v := 2) dX9_plan_38 (by decide) ?_
        refine v_icmp_neN (a := P3) (b := 2) (tgt := 70) dX9_plan_39 (by decide) rfl rfl (by omega) (by omega) (fun h8 => ?_) (fun h8 => ?_)
        · -- P3 ne 2
          refine v_aload_n dX9_plan_70 rfl 0 rfl ?_
          refine v_get (v := .int (I 65 39)) fa_X9_129 dX9_plan_71 rfl (by decide) (ltn rfl) rfl ?_
          refine v_is hpn ?_
          refine v_bipush (v := 8) dX9_plan_74 (by decide) ?_
          refine v_icmp_neN (a := pn) (b := 8) (tgt := 82) dX9_plan_76 (by decide) rfl rfl (by omega) (by omega) (fun h9 => ?_) (fun h9 => ?_)
          · -- pn ne 8
            refine v_aload_n dX9_plan_82 rfl 0 rfl ?_
            refine v_get (v := .ref (g.1 + 92)) fa_X9_135 dX9_plan_83 rfl (by decide) (ltn rfl) rfl ?_
            refine v_aload_n dX9_plan_86 rfl 0 rfl ?_
            refine v_get (v := .int (I 65 39)) fa_X9_129 dX9_plan_87 rfl (by decide) (ltn rfl) rfl ?_
            refine v_is hpn ?_
            refine v_iload_n dX9_plan_90 rfl 1 rfl ?_
            refine v_iastore (len := 8) (j := pn) dX9_plan_91 rfl (ltn rfl) rfl (by decide) rfl (by omega) ?_
            refine v_aload_n dX9_plan_92 rfl 0 rfl ?_
            refine v_get (v := .ref (g.1 + 93)) fa_X9_138 dX9_plan_93 rfl (by decide) (ltn rfl) rfl ?_
            refine v_aload_n dX9_plan_96 rfl 0 rfl ?_
            refine v_get (v := .int (I 65 39)) fa_X9_129 dX9_plan_97 rfl (by decide) (ltn rfl) rfl ?_
            refine v_is hpn ?_
            refine v_iload_n dX9_plan_100 rfl 1 rfl ?_
            refine v_if_leN (a := P3) (tgt := 108) dX9_plan_101 (by decide) rfl (by omega) (fun h10 => ?_) (fun h10 => ?_)
            · -- P3 le 0
              refine v_iconst (v := 0) dX9_plan_108 (by decide) ?_
              refine v_iastore (len := 8) (j := pn) dX9_plan_109 rfl (ltn rfl) rfl (by decide) rfl (by omega) ?_
              refine v_aload_n dX9_plan_110 rfl 0 rfl ?_
              refine v_dup dX9_plan_111 rfl ?_
              refine v_get (v := .int (I 65 39)) fa_X9_129 dX9_plan_112 rfl (by decide) (ltn rfl) rfl ?_
              refine v_is hpn ?_
              refine v_iconst (v := 1) dX9_plan_115 (by decide) ?_
              refine v_iadd dX9_plan_116 ?_
              refine v_is (nx_add rfl rfl) ?_
              refine v_puti pa_X9_129 dX9_plan_117 rfl (by decide) (ltn rfl) (by show 39 < 73; decide) rfl ?_
              refine v_aload_n dX9_plan_120 rfl 0 rfl ?_
              refine v_get (v := .int (nI (pn + 1))) fa_X9_129 dX9_plan_121 rfl (by decide) (ltn rfl) rfl ?_
              exact v_iret hr dX9_plan_124 (psi (by first | rfl | (simp only [bq, ifc_T, ifc_F, inr_m1, and_true, true_and, and_false, false_and, or_true, true_or, or_false, false_or, not_true_eq_false, not_false_eq_true, and_self, or_self, h1, h2, t5, u6, l4, h7, h8, h9, h10, planC]; done) | (simp [bq, ifc_T, ifc_F, inr_m1, h1, h2, t5, u6, l4, h7, h8, h9, h10, planC]; done) | ((try simp only [bq, planC]); repeat (first | rfl | (refine eq_t ?_ ?_; focus (first | omega | assumption | (simp [inr_m1, h1, h2, t5, u6, l4, h7, h8, h9, h10]; done) | (simp [inr_m1, h1, h2, t5, u6, l4, h7, h8, h9, h10]; omega) | (simp only [u6]; omega) | (clear hr; (try clear hkn); simp_all; done))) | (refine eq_f ?_ ?_; focus (first | omega | assumption | (simp [inr_m1, h1, h2, t5, u6, l4, h7, h8, h9, h10]; done) | (simp [inr_m1, h1, h2, t5, u6, l4, h7, h8, h9, h10]; omega) | (simp only [u6]; omega) | (clear hr; (try clear hkn); simp_all; done))) | (simp only [t5]; done) | (exfalso; clear hr; (try clear hkn); simp_all; done)))) (by first | rfl | (simp only [bq, ifc_T, ifc_F, inr_m1, and_true, true_and, and_false, false_and, or_true, true_or, or_false, false_or, not_true_eq_false, not_false_eq_true, and_self, or_self, h1, h2, t5, u6, l4, h7, h8, h9, h10, planC]; done) | (simp [bq, ifc_T, ifc_F, inr_m1, h1, h2, t5, u6, l4, h7, h8, h9, h10, planC]; done) | ((try simp only [bq, planC]); repeat (first | rfl | (refine eq_t ?_ ?_; focus (first | omega | assumption | (simp [inr_m1, h1, h2, t5, u6, l4, h7, h8, h9, h10]; done) | (simp [inr_m1, h1, h2, t5, u6, l4, h7, h8, h9, h10]; omega) | (simp only [u6]; omega) | (clear hr; (try clear hkn); simp_all; done))) | (refine eq_f ?_ ?_; focus (first | omega | assumption | (simp [inr_m1, h1, h2, t5, u6, l4, h7, h8, h9, h10]; done) | (simp [inr_m1, h1, h2, t5, u6, l4, h7, h8, h9, h10]; omega) | (simp only [u6]; omega) | (clear hr; (try clear hkn); simp_all; done))) | (simp only [t5]; done) | (exfalso; clear hr; (try clear hkn); simp_all; done)))))
            · -- P3 gt 0
              refine v_iload_n dX9_plan_104 rfl 2 rfl ?_
              refine v_goto (tgt := 109) dX9_plan_105 (by decide) ?_
              refine v_iastore (len := 8) (j := pn) dX9_plan_109 rfl (ltn rfl) rfl (by decide) rfl (by omega) ?_
              refine v_aload_n dX9_plan_110 rfl 0 rfl ?_
              refine v_dup dX9_plan_111 rfl ?_
              refine v_get (v := .int (I 65 39)) fa_X9_129 dX9_plan_112 rfl (by decide) (ltn rfl) rfl ?_
              refine v_is hpn ?_
              refine v_iconst (v := 1) dX9_plan_115 (by decide) ?_
              refine v_iadd dX9_plan_116 ?_
              refine v_is (nx_add rfl rfl) ?_
              refine v_puti pa_X9_129 dX9_plan_117 rfl (by decide) (ltn rfl) (by show 39 < 73; decide) rfl ?_
              refine v_aload_n dX9_plan_120 rfl 0 rfl ?_
              refine v_get (v := .int (nI (pn + 1))) fa_X9_129 dX9_plan_121 rfl (by decide) (ltn rfl) rfl ?_
              exact v_iret hr dX9_plan_124 (psi (by first | rfl | (simp only [bq, ifc_T, ifc_F, inr_m1, and_true, true_and, and_false, false_and, or_true, true_or, or_false, false_or, not_true_eq_false, not_false_eq_true, and_self, or_self, h1, h2, t5, u6, l4, h7, h8, h9, h10, planC]; done) | (simp [bq, ifc_T, ifc_F, inr_m1, h1, h2, t5, u6, l4, h7, h8, h9, h10, planC]; done) | ((try simp only [bq, planC]); repeat (first | rfl | (refine eq_t ?_ ?_; focus (first | omega | assumption | (simp [inr_m1, h1, h2, t5, u6, l4, h7, h8, h9, h10]; done) | (simp [inr_m1, h1, h2, t5, u6, l4, h7, h8, h9, h10]; omega) | (simp only [u6]; omega) | (clear hr; (try clear hkn); simp_all; done))) | (refine eq_f ?_ ?_; focus (first | omega | assumption | (simp [inr_m1, h1, h2, t5, u6, l4, h7, h8, h9, h10]; done) | (simp [inr_m1, h1, h2, t5, u6, l4, h7, h8, h9, h10]; omega) | (simp only [u6]; omega) | (clear hr; (try clear hkn); simp_all; done))) | (simp only [t5]; done) | (exfalso; clear hr; (try clear hkn); simp_all; done)))) (by first | rfl | (simp only [bq, ifc_T, ifc_F, inr_m1, and_true, true_and, and_false, false_and, or_true, true_or, or_false, false_or, not_true_eq_false, not_false_eq_true, and_self, or_self, h1, h2, t5, u6, l4, h7, h8, h9, h10, planC]; done) | (simp [bq, ifc_T, ifc_F, inr_m1, h1, h2, t5, u6, l4, h7, h8, h9, h10, planC]; done) | ((try simp only [bq, planC]); repeat (first | rfl | (refine eq_t ?_ ?_; focus (first | omega | assumption | (simp [inr_m1, h1, h2, t5, u6, l4, h7, h8, h9, h10]; done) | (simp [inr_m1, h1, h2, t5, u6, l4, h7, h8, h9, h10]; omega) | (simp only [u6]; omega) | (clear hr; (try clear hkn); simp_all; done))) | (refine eq_f ?_ ?_; focus (first | omega | assumption | (simp [inr_m1, h1, h2, t5, u6, l4, h7, h8, h9, h10]; done) | (simp [inr_m1, h1, h2, t5, u6, l4, h7, h8, h9, h10]; omega) | (simp only [u6]; omega) | (clear hr; (try clear hkn); simp_all; done))) | (simp only [t5]; done) | (exfalso; clear hr; (try clear hkn); simp_all; done)))))
          · -- pn eq 8
            refine v_bipush (v := (-4)) dX9_plan_79 (by decide) ?_
            exact v_iret hr dX9_plan_81 (psi (by first | rfl | (simp only [bq, ifc_T, ifc_F, inr_m1, and_true, true_and, and_false, false_and, or_true, true_or, or_false, false_or, not_true_eq_false, not_false_eq_true, and_self, or_self, h1, h2, t5, u6, l4, h7, h8, h9, planC]; done) | (simp [bq, ifc_T, ifc_F, inr_m1, h1, h2, t5, u6, l4, h7, h8, h9, planC]; done) | ((try simp only [bq, planC]); repeat (first | rfl | (refine eq_t ?_ ?_; focus (first | omega | assumption | (simp [inr_m1, h1, h2, t5, u6, l4, h7, h8, h9]; done) | (simp [inr_m1, h1, h2, t5, u6, l4, h7, h8, h9]; omega) | (simp only [u6]; omega) | (clear hr; (try clear hkn); simp_all; done))) | (refine eq_f ?_ ?_; focus (first | omega | assumption | (simp [inr_m1, h1, h2, t5, u6, l4, h7, h8, h9]; done) | (simp [inr_m1, h1, h2, t5, u6, l4, h7, h8, h9]; omega) | (simp only [u6]; omega) | (clear hr; (try clear hkn); simp_all; done))) | (simp only [t5]; done) | (exfalso; clear hr; (try clear hkn); simp_all; done)))) (by first | rfl | (simp only [bq, ifc_T, ifc_F, inr_m1, and_true, true_and, and_false, false_and, or_true, true_or, or_false, false_or, not_true_eq_false, not_false_eq_true, and_self, or_self, h1, h2, t5, u6, l4, h7, h8, h9, planC]; done) | (simp [bq, ifc_T, ifc_F, inr_m1, h1, h2, t5, u6, l4, h7, h8, h9, planC]; done) | ((try simp only [bq, planC]); repeat (first | rfl | (refine eq_t ?_ ?_; focus (first | omega | assumption | (simp [inr_m1, h1, h2, t5, u6, l4, h7, h8, h9]; done) | (simp [inr_m1, h1, h2, t5, u6, l4, h7, h8, h9]; omega) | (simp only [u6]; omega) | (clear hr; (try clear hkn); simp_all; done))) | (refine eq_f ?_ ?_; focus (first | omega | assumption | (simp [inr_m1, h1, h2, t5, u6, l4, h7, h8, h9]; done) | (simp [inr_m1, h1, h2, t5, u6, l4, h7, h8, h9]; omega) | (simp only [u6]; omega) | (clear hr; (try clear hkn); simp_all; done))) | (simp only [t5]; done) | (exfalso; clear hr; (try clear hkn); simp_all; done)))))
        · -- P3 eq 2
          refine v_iload_n dX9_plan_42 rfl 2 rfl ?_
          refine v_if_lt (tgt := 68) dX9_plan_43 (by decide) (fun h11 => ?_) (fun h11 => ?_)
          · -- nz lt 0
            refine v_iconst (v := (-1)) dX9_plan_68 (by decide) ?_
            exact v_iret hr dX9_plan_69 (psi (by first | rfl | (simp only [bq, ifc_T, ifc_F, inr_m1, and_true, true_and, and_false, false_and, or_true, true_or, or_false, false_or, not_true_eq_false, not_false_eq_true, and_self, or_self, h1, h2, t5, u6, l4, h7, h8, h11, planC]; done) | (simp [bq, ifc_T, ifc_F, inr_m1, h1, h2, t5, u6, l4, h7, h8, h11, planC]; done) | ((try simp only [bq, planC]); repeat (first | rfl | (refine eq_t ?_ ?_; focus (first | omega | assumption | (simp [inr_m1, h1, h2, t5, u6, l4, h7, h8, h11]; done) | (simp [inr_m1, h1, h2, t5, u6, l4, h7, h8, h11]; omega) | (simp only [u6]; omega) | (clear hr; (try clear hkn); simp_all; done))) | (refine eq_f ?_ ?_; focus (first | omega | assumption | (simp [inr_m1, h1, h2, t5, u6, l4, h7, h8, h11]; done) | (simp [inr_m1, h1, h2, t5, u6, l4, h7, h8, h11]; omega) | (simp only [u6]; omega) | (clear hr; (try clear hkn); simp_all; done))) | (simp only [t5]; done) | (exfalso; clear hr; (try clear hkn); simp_all; done)))) (by first | rfl | (simp only [bq, ifc_T, ifc_F, inr_m1, and_true, true_and, and_false, false_and, or_true, true_or, or_false, false_or, not_true_eq_false, not_false_eq_true, and_self, or_self, h1, h2, t5, u6, l4, h7, h8, h11, planC]; done) | (simp [bq, ifc_T, ifc_F, inr_m1, h1, h2, t5, u6, l4, h7, h8, h11, planC]; done) | ((try simp only [bq, planC]); repeat (first | rfl | (refine eq_t ?_ ?_; focus (first | omega | assumption | (simp [inr_m1, h1, h2, t5, u6, l4, h7, h8, h11]; done) | (simp [inr_m1, h1, h2, t5, u6, l4, h7, h8, h11]; omega) | (simp only [u6]; omega) | (clear hr; (try clear hkn); simp_all; done))) | (refine eq_f ?_ ?_; focus (first | omega | assumption | (simp [inr_m1, h1, h2, t5, u6, l4, h7, h8, h11]; done) | (simp [inr_m1, h1, h2, t5, u6, l4, h7, h8, h11]; omega) | (simp only [u6]; omega) | (clear hr; (try clear hkn); simp_all; done))) | (simp only [t5]; done) | (exfalso; clear hr; (try clear hkn); simp_all; done)))))
          · -- nz ge 0
            refine v_aload_n dX9_plan_46 rfl 0 rfl ?_
            refine v_iload_n dX9_plan_47 rfl 2 rfl ?_
            refine v_bipush (v := 10) dX9_plan_48 (by decide) ?_
            refine v_idiv dX9_plan_50 (by decide) ?_
            refine v_callVi (As := [.int (nz / 10)]) (rest := []) lk_X9_245 (c_X9_isOne (nz / 10) pp hpp hpe) dX9_plan_51 rfl (ltn rfl) rfl rfl (Nat.le_of_ble_eq_true rfl) (by decide) ?_
            refine v_ifb_eq (tgt := 68) dX9_plan_54 (by decide) (fun h12 => ?_) (fun h12 => ?_)
            · -- not inr (nz / 10) pp
              refine v_iconst (v := (-1)) dX9_plan_68 (by decide) ?_
              exact v_iret hr dX9_plan_69 (psi (by first | rfl | (simp only [bq, ifc_T, ifc_F, inr_m1, and_true, true_and, and_false, false_and, or_true, true_or, or_false, false_or, not_true_eq_false, not_false_eq_true, and_self, or_self, h1, h2, t5, u6, l4, h7, h8, h11, h12, planC]; done) | (simp [bq, ifc_T, ifc_F, inr_m1, h1, h2, t5, u6, l4, h7, h8, h11, h12, planC]; done) | ((try simp only [bq, planC]); repeat (first | rfl | (refine eq_t ?_ ?_; focus (first | omega | assumption | (simp [inr_m1, h1, h2, t5, u6, l4, h7, h8, h11, h12]; done) | (simp [inr_m1, h1, h2, t5, u6, l4, h7, h8, h11, h12]; omega) | (simp only [u6]; omega) | (clear hr; (try clear hkn); simp_all; done))) | (refine eq_f ?_ ?_; focus (first | omega | assumption | (simp [inr_m1, h1, h2, t5, u6, l4, h7, h8, h11, h12]; done) | (simp [inr_m1, h1, h2, t5, u6, l4, h7, h8, h11, h12]; omega) | (simp only [u6]; omega) | (clear hr; (try clear hkn); simp_all; done))) | (simp only [t5]; done) | (exfalso; clear hr; (try clear hkn); simp_all; done)))) (by first | rfl | (simp only [bq, ifc_T, ifc_F, inr_m1, and_true, true_and, and_false, false_and, or_true, true_or, or_false, false_or, not_true_eq_false, not_false_eq_true, and_self, or_self, h1, h2, t5, u6, l4, h7, h8, h11, h12, planC]; done) | (simp [bq, ifc_T, ifc_F, inr_m1, h1, h2, t5, u6, l4, h7, h8, h11, h12, planC]; done) | ((try simp only [bq, planC]); repeat (first | rfl | (refine eq_t ?_ ?_; focus (first | omega | assumption | (simp [inr_m1, h1, h2, t5, u6, l4, h7, h8, h11, h12]; done) | (simp [inr_m1, h1, h2, t5, u6, l4, h7, h8, h11, h12]; omega) | (simp only [u6]; omega) | (clear hr; (try clear hkn); simp_all; done))) | (refine eq_f ?_ ?_; focus (first | omega | assumption | (simp [inr_m1, h1, h2, t5, u6, l4, h7, h8, h11, h12]; done) | (simp [inr_m1, h1, h2, t5, u6, l4, h7, h8, h11, h12]; omega) | (simp only [u6]; omega) | (clear hr; (try clear hkn); simp_all; done))) | (simp only [t5]; done) | (exfalso; clear hr; (try clear hkn); simp_all; done)))))
            · -- inr (nz / 10) pp
              have e13 := inr_nI h12
              have l14 := inr_lt h12
              refine v_aload_n dX9_plan_57 rfl 0 rfl ?_
              refine v_iload_n dX9_plan_58 rfl 2 rfl ?_
              refine v_bipush (v := 10) dX9_plan_59 (by decide) ?_
              refine v_irem dX9_plan_61 (by decide) ?_
              refine v_callVi (As := [.int (nz - nz / 10 * 10)]) (rest := []) lk_X9_245 (c_X9_isOne (nz - nz / 10 * 10) pp hpp hpe) dX9_plan_62 rfl (ltn rfl) rfl rfl (Nat.le_of_ble_eq_true rfl) (by decide) ?_
              refine v_ifb_ne (tgt := 70) dX9_plan_65 (by decide) (fun h15 => ?_) (fun h15 => ?_)
              · -- inr (nz - nz / 10 * 10) pp
                have e16 := inr_nI h15
                have l17 := inr_lt h15
                refine v_aload_n dX9_plan_70 rfl 0 rfl ?_
                refine v_get (v := .int (I 65 39)) fa_X9_129 dX9_plan_71 rfl (by decide) (ltn rfl) rfl ?_
                refine v_is hpn ?_
                refine v_bipush (v := 8) dX9_plan_74 (by decide) ?_
                refine v_icmp_neN (a := pn) (b := 8) (tgt := 82) dX9_plan_76 (by decide) rfl rfl (by omega) (by omega) (fun h18 => ?_) (fun h18 => ?_)
                · -- pn ne 8
                  refine v_aload_n dX9_plan_82 rfl 0 rfl ?_
                  refine v_get (v := .ref (g.1 + 92)) fa_X9_135 dX9_plan_83 rfl (by decide) (ltn rfl) rfl ?_
                  refine v_aload_n dX9_plan_86 rfl 0 rfl ?_
                  refine v_get (v := .int (I 65 39)) fa_X9_129 dX9_plan_87 rfl (by decide) (ltn rfl) rfl ?_
                  refine v_is hpn ?_
                  refine v_iload_n dX9_plan_90 rfl 1 rfl ?_
                  refine v_iastore (len := 8) (j := pn) dX9_plan_91 rfl (ltn rfl) rfl (by decide) rfl (by omega) ?_
                  refine v_aload_n dX9_plan_92 rfl 0 rfl ?_
                  refine v_get (v := .ref (g.1 + 93)) fa_X9_138 dX9_plan_93 rfl (by decide) (ltn rfl) rfl ?_
                  refine v_aload_n dX9_plan_96 rfl 0 rfl ?_
                  refine v_get (v := .int (I 65 39)) fa_X9_129 dX9_plan_97 rfl (by decide) (ltn rfl) rfl ?_
                  refine v_is hpn ?_
                  refine v_iload_n dX9_plan_100 rfl 1 rfl ?_
                  refine v_if_leN (a := P3) (tgt := 108) dX9_plan_101 (by decide) rfl (by omega) (fun h19 => ?_) (fun h19 => ?_)
                  · -- P3 le 0
                    refine v_iconst (v := 0) dX9_plan_108 (by decide) ?_
                    refine v_iastore (len := 8) (j := pn) dX9_plan_109 rfl (ltn rfl) rfl (by decide) rfl (by omega) ?_
                    refine v_aload_n dX9_plan_110 rfl 0 rfl ?_
                    refine v_dup dX9_plan_111 rfl ?_
                    refine v_get (v := .int (I 65 39)) fa_X9_129 dX9_plan_112 rfl (by decide) (ltn rfl) rfl ?_
                    refine v_is hpn ?_
                    refine v_iconst (v := 1) dX9_plan_115 (by decide) ?_
                    refine v_iadd dX9_plan_116 ?_
                    refine v_is (nx_add rfl rfl) ?_
                    refine v_puti pa_X9_129 dX9_plan_117 rfl (by decide) (ltn rfl) (by show 39 < 73; decide) rfl ?_
                    refine v_aload_n dX9_plan_120 rfl 0 rfl ?_
                    refine v_get (v := .int (nI (pn + 1))) fa_X9_129 dX9_plan_121 rfl (by decide) (ltn rfl) rfl ?_
                    exact v_iret hr dX9_plan_124 (psi (by first | rfl | (simp only [bq, ifc_T, ifc_F, inr_m1, and_true, true_and, and_false, false_and, or_true, true_or, or_false, false_or, not_true_eq_false, not_false_eq_true, and_self, or_self, h1, h2, t5, u6, l4, h7, h8, h11, h12, h15, h18, h19, planC]; done) | (simp [bq, ifc_T, ifc_F, inr_m1, h1, h2, t5, u6, l4, h7, h8, h11, h12, h15, h18, h19, planC]; done) | ((try simp only [bq, planC]); repeat (first | rfl | (refine eq_t ?_ ?_; focus (first | omega | assumption | (simp [inr_m1, h1, h2, t5, u6, l4, h7, h8, h11, h12, h15, h18, h19]; done) | (simp [inr_m1, h1, h2, t5, u6, l4, h7, h8, h11, h12, h15, h18, h19]; omega) | (simp only [u6]; omega) | (clear hr; (try clear hkn); (try clear e13); (try clear e16); simp_all; done))) | (refine eq_f ?_ ?_; focus (first | omega | assumption | (simp [inr_m1, h1, h2, t5, u6, l4, h7, h8, h11, h12, h15, h18, h19]; done) | (simp [inr_m1, h1, h2, t5, u6, l4, h7, h8, h11, h12, h15, h18, h19]; omega) | (simp only [u6]; omega) | (clear hr; (try clear hkn); (try clear e13); (try clear e16); simp_all; done))) | (simp only [t5]; done) | (exfalso; clear hr; (try clear hkn); (try clear e13); (try clear e16); simp_all; done)))) (by first | rfl | (simp only [bq, ifc_T, ifc_F, inr_m1, and_true, true_and, and_false, false_and, or_true, true_or, or_false, false_or, not_true_eq_false, not_false_eq_true, and_self, or_self, h1, h2, t5, u6, l4, h7, h8, h11, h12, h15, h18, h19, planC]; done) | (simp [bq, ifc_T, ifc_F, inr_m1, h1, h2, t5, u6, l4, h7, h8, h11, h12, h15, h18, h19, planC]; done) | ((try simp only [bq, planC]); repeat (first | rfl | (refine eq_t ?_ ?_; focus (first | omega | assumption | (simp [inr_m1, h1, h2, t5, u6, l4, h7, h8, h11, h12, h15, h18, h19]; done) | (simp [inr_m1, h1, h2, t5, u6, l4, h7, h8, h11, h12, h15, h18, h19]; omega) | (simp only [u6]; omega) | (clear hr; (try clear hkn); (try clear e13); (try clear e16); simp_all; done))) | (refine eq_f ?_ ?_; focus (first | omega | assumption | (simp [inr_m1, h1, h2, t5, u6, l4, h7, h8, h11, h12, h15, h18, h19]; done) | (simp [inr_m1, h1, h2, t5, u6, l4, h7, h8, h11, h12, h15, h18, h19]; omega) | (simp only [u6]; omega) | (clear hr; (try clear hkn); (try clear e13); (try clear e16); simp_all; done))) | (simp only [t5]; done) | (exfalso; clear hr; (try clear hkn); (try clear e13); (try clear e16); simp_all; done)))))
                  · -- P3 gt 0
                    refine v_iload_n dX9_plan_104 rfl 2 rfl ?_
                    refine v_goto (tgt := 109) dX9_plan_105 (by decide) ?_
                    refine v_iastore (len := 8) (j := pn) dX9_plan_109 rfl (ltn rfl) rfl (by decide) rfl (by omega) ?_
                    refine v_aload_n dX9_plan_110 rfl 0 rfl ?_
                    refine v_dup dX9_plan_111 rfl ?_
                    refine v_get (v := .int (I 65 39)) fa_X9_129 dX9_plan_112 rfl (by decide) (ltn rfl) rfl ?_
                    refine v_is hpn ?_
                    refine v_iconst (v := 1) dX9_plan_115 (by decide) ?_
                    refine v_iadd dX9_plan_116 ?_
                    refine v_is (nx_add rfl rfl) ?_
                    refine v_puti pa_X9_129 dX9_plan_117 rfl (by decide) (ltn rfl) (by show 39 < 73; decide) rfl ?_
                    refine v_aload_n dX9_plan_120 rfl 0 rfl ?_
                    refine v_get (v := .int (nI (pn + 1))) fa_X9_129 dX9_plan_121 rfl (by decide) (ltn rfl) rfl ?_
                    exact v_iret hr dX9_plan_124 (psi (by first | rfl | (simp only [bq, ifc_T, ifc_F, inr_m1, and_true, true_and, and_false, false_and, or_true, true_or, or_false, false_or, not_true_eq_false, not_false_eq_true, and_self, or_self, h1, h2, t5, u6, l4, h7, h8, h11, h12, h15, h18, h19, planC]; done) | (simp [bq, ifc_T, ifc_F, inr_m1, h1, h2, t5, u6, l4, h7, h8, h11, h12, h15, h18, h19, planC]; done) | ((try simp only [bq, planC]); repeat (first | rfl | (refine eq_t ?_ ?_; focus (first | omega | assumption | (simp [inr_m1, h1, h2, t5, u6, l4, h7, h8, h11, h12, h15, h18, h19]; done) | (simp [inr_m1, h1, h2, t5, u6, l4, h7, h8, h11, h12, h15, h18, h19]; omega) | (simp only [u6]; omega) | (clear hr; (try clear hkn); (try clear e13); (try clear e16); simp_all; done))) | (refine eq_f ?_ ?_; focus (first | omega | assumption | (simp [inr_m1, h1, h2, t5, u6, l4, h7, h8, h11, h12, h15, h18, h19]; done) | (simp [inr_m1, h1, h2, t5, u6, l4, h7, h8, h11, h12, h15, h18, h19]; omega) | (simp only [u6]; omega) | (clear hr; (try clear hkn); (try clear e13); (try clear e16); simp_all; done))) | (simp only [t5]; done) | (exfalso; clear hr; (try clear hkn); (try clear e13); (try clear e16); simp_all; done)))) (by first | rfl | (simp only [bq, ifc_T, ifc_F, inr_m1, and_true, true_and, and_false, false_and, or_true, true_or, or_false, false_or, not_true_eq_false, not_false_eq_true, and_self, or_self, h1, h2, t5, u6, l4, h7, h8, h11, h12, h15, h18, h19, planC]; done) | (simp [bq, ifc_T, ifc_F, inr_m1, h1, h2, t5, u6, l4, h7, h8, h11, h12, h15, h18, h19, planC]; done) | ((try simp only [bq, planC]); repeat (first | rfl | (refine eq_t ?_ ?_; focus (first | omega | assumption | (simp [inr_m1, h1, h2, t5, u6, l4, h7, h8, h11, h12, h15, h18, h19]; done) | (simp [inr_m1, h1, h2, t5, u6, l4, h7, h8, h11, h12, h15, h18, h19]; omega) | (simp only [u6]; omega) | (clear hr; (try clear hkn); (try clear e13); (try clear e16); simp_all; done))) | (refine eq_f ?_ ?_; focus (first | omega | assumption | (simp [inr_m1, h1, h2, t5, u6, l4, h7, h8, h11, h12, h15, h18, h19]; done) | (simp [inr_m1, h1, h2, t5, u6, l4, h7, h8, h11, h12, h15, h18, h19]; omega) | (simp only [u6]; omega) | (clear hr; (try clear hkn); (try clear e13); (try clear e16); simp_all; done))) | (simp only [t5]; done) | (exfalso; clear hr; (try clear hkn); (try clear e13); (try clear e16); simp_all; done)))))
                · -- pn eq 8
                  refine v_bipush (v := (-4)) dX9_plan_79 (by decide) ?_
                  exact v_iret hr dX9_plan_81 (psi (by first | rfl | (simp only [bq, ifc_T, ifc_F, inr_m1, and_true, true_and, and_false, false_and, or_true, true_or, or_false, false_or, not_true_eq_false, not_false_eq_true, and_self, or_self, h1, h2, t5, u6, l4, h7, h8, h11, h12, h15, h18, planC]; done) | (simp [bq, ifc_T, ifc_F, inr_m1, h1, h2, t5, u6, l4, h7, h8, h11, h12, h15, h18, planC]; done) | ((try simp only [bq, planC]); repeat (first | rfl | (refine eq_t ?_ ?_; focus (first | omega | assumption | (simp [inr_m1, h1, h2, t5, u6, l4, h7, h8, h11, h12, h15, h18]; done) | (simp [inr_m1, h1, h2, t5, u6, l4, h7, h8, h11, h12, h15, h18]; omega) | (simp only [u6]; omega) | (clear hr; (try clear hkn); (try clear e13); (try clear e16); simp_all; done))) | (refine eq_f ?_ ?_; focus (first | omega | assumption | (simp [inr_m1, h1, h2, t5, u6, l4, h7, h8, h11, h12, h15, h18]; done) | (simp [inr_m1, h1, h2, t5, u6, l4, h7, h8, h11, h12, h15, h18]; omega) | (simp only [u6]; omega) | (clear hr; (try clear hkn); (try clear e13); (try clear e16); simp_all; done))) | (simp only [t5]; done) | (exfalso; clear hr; (try clear hkn); (try clear e13); (try clear e16); simp_all; done)))) (by first | rfl | (simp only [bq, ifc_T, ifc_F, inr_m1, and_true, true_and, and_false, false_and, or_true, true_or, or_false, false_or, not_true_eq_false, not_false_eq_true, and_self, or_self, h1, h2, t5, u6, l4, h7, h8, h11, h12, h15, h18, planC]; done) | (simp [bq, ifc_T, ifc_F, inr_m1, h1, h2, t5, u6, l4, h7, h8, h11, h12, h15, h18, planC]; done) | ((try simp only [bq, planC]); repeat (first | rfl | (refine eq_t ?_ ?_; focus (first | omega | assumption | (simp [inr_m1, h1, h2, t5, u6, l4, h7, h8, h11, h12, h15, h18]; done) | (simp [inr_m1, h1, h2, t5, u6, l4, h7, h8, h11, h12, h15, h18]; omega) | (simp only [u6]; omega) | (clear hr; (try clear hkn); (try clear e13); (try clear e16); simp_all; done))) | (refine eq_f ?_ ?_; focus (first | omega | assumption | (simp [inr_m1, h1, h2, t5, u6, l4, h7, h8, h11, h12, h15, h18]; done) | (simp [inr_m1, h1, h2, t5, u6, l4, h7, h8, h11, h12, h15, h18]; omega) | (simp only [u6]; omega) | (clear hr; (try clear hkn); (try clear e13); (try clear e16); simp_all; done))) | (simp only [t5]; done) | (exfalso; clear hr; (try clear hkn); (try clear e13); (try clear e16); simp_all; done)))))
              · -- not inr (nz - nz / 10 * 10) pp
                refine v_iconst (v := (-1)) dX9_plan_68 (by decide) ?_
                exact v_iret hr dX9_plan_69 (psi (by first | rfl | (simp only [bq, ifc_T, ifc_F, inr_m1, and_true, true_and, and_false, false_and, or_true, true_or, or_false, false_or, not_true_eq_false, not_false_eq_true, and_self, or_self, h1, h2, t5, u6, l4, h7, h8, h11, h12, h15, planC]; done) | (simp [bq, ifc_T, ifc_F, inr_m1, h1, h2, t5, u6, l4, h7, h8, h11, h12, h15, planC]; done) | ((try simp only [bq, planC]); repeat (first | rfl | (refine eq_t ?_ ?_; focus (first | omega | assumption | (simp [inr_m1, h1, h2, t5, u6, l4, h7, h8, h11, h12, h15]; done) | (simp [inr_m1, h1, h2, t5, u6, l4, h7, h8, h11, h12, h15]; omega) | (simp only [u6]; omega) | (clear hr; (try clear hkn); (try clear e13); simp_all; done))) | (refine eq_f ?_ ?_; focus (first | omega | assumption | (simp [inr_m1, h1, h2, t5, u6, l4, h7, h8, h11, h12, h15]; done) | (simp [inr_m1, h1, h2, t5, u6, l4, h7, h8, h11, h12, h15]; omega) | (simp only [u6]; omega) | (clear hr; (try clear hkn); (try clear e13); simp_all; done))) | (simp only [t5]; done) | (exfalso; clear hr; (try clear hkn); (try clear e13); simp_all; done)))) (by first | rfl | (simp only [bq, ifc_T, ifc_F, inr_m1, and_true, true_and, and_false, false_and, or_true, true_or, or_false, false_or, not_true_eq_false, not_false_eq_true, and_self, or_self, h1, h2, t5, u6, l4, h7, h8, h11, h12, h15, planC]; done) | (simp [bq, ifc_T, ifc_F, inr_m1, h1, h2, t5, u6, l4, h7, h8, h11, h12, h15, planC]; done) | ((try simp only [bq, planC]); repeat (first | rfl | (refine eq_t ?_ ?_; focus (first | omega | assumption | (simp [inr_m1, h1, h2, t5, u6, l4, h7, h8, h11, h12, h15]; done) | (simp [inr_m1, h1, h2, t5, u6, l4, h7, h8, h11, h12, h15]; omega) | (simp only [u6]; omega) | (clear hr; (try clear hkn); (try clear e13); simp_all; done))) | (refine eq_f ?_ ?_; focus (first | omega | assumption | (simp [inr_m1, h1, h2, t5, u6, l4, h7, h8, h11, h12, h15]; done) | (simp [inr_m1, h1, h2, t5, u6, l4, h7, h8, h11, h12, h15]; omega) | (simp only [u6]; omega) | (clear hr; (try clear hkn); (try clear e13); simp_all; done))) | (simp only [t5]; done) | (exfalso; clear hr; (try clear hkn); (try clear e13); simp_all; done)))))
      · -- (P3 % 2) eq 1
        refine v_aload_n dX9_plan_29 rfl 0 rfl ?_
        refine v_iload_n dX9_plan_30 rfl 2 rfl ?_
        refine v_callVi (As := [.int nz]) (rest := []) lk_X9_245 (c_X9_isOne nz pp hpp hpe) dX9_plan_31 rfl (ltn rfl) rfl rfl (Nat.le_of_ble_eq_true rfl) (by decide) ?_
        refine v_ifb_eq (tgt := 68) dX9_plan_34 (by decide) (fun h20 => ?_) (fun h20 => ?_)
        · -- not inr nz pp
          refine v_iconst (v := (-1)) dX9_plan_68 (by decide) ?_
          exact v_iret hr dX9_plan_69 (psi (by first | rfl | (simp only [bq, ifc_T, ifc_F, inr_m1, and_true, true_and, and_false, false_and, or_true, true_or, or_false, false_or, not_true_eq_false, not_false_eq_true, and_self, or_self, h1, h2, t5, u6, l4, h7, h20, planC]; done) | (simp [bq, ifc_T, ifc_F, inr_m1, h1, h2, t5, u6, l4, h7, h20, planC]; done) | ((try simp only [bq, planC]); repeat (first | rfl | (refine eq_t ?_ ?_; focus (first | omega | assumption | (simp [inr_m1, h1, h2, t5, u6, l4, h7, h20]; done) | (simp [inr_m1, h1, h2, t5, u6, l4, h7, h20]; omega) | (simp only [u6]; omega) | (clear hr; (try clear hkn); simp_all; done))) | (refine eq_f ?_ ?_; focus (first | omega | assumption | (simp [inr_m1, h1, h2, t5, u6, l4, h7, h20]; done) | (simp [inr_m1, h1, h2, t5, u6, l4, h7, h20]; omega) | (simp only [u6]; omega) | (clear hr; (try clear hkn); simp_all; done))) | (simp only [t5]; done) | (exfalso; clear hr; (try clear hkn); simp_all; done)))) (by first | rfl | (simp only [bq, ifc_T, ifc_F, inr_m1, and_true, true_and, and_false, false_and, or_true, true_or, or_false, false_or, not_true_eq_false, not_false_eq_true, and_self, or_self, h1, h2, t5, u6, l4, h7, h20, planC]; done) | (simp [bq, ifc_T, ifc_F, inr_m1, h1, h2, t5, u6, l4, h7, h20, planC]; done) | ((try simp only [bq, planC]); repeat (first | rfl | (refine eq_t ?_ ?_; focus (first | omega | assumption | (simp [inr_m1, h1, h2, t5, u6, l4, h7, h20]; done) | (simp [inr_m1, h1, h2, t5, u6, l4, h7, h20]; omega) | (simp only [u6]; omega) | (clear hr; (try clear hkn); simp_all; done))) | (refine eq_f ?_ ?_; focus (first | omega | assumption | (simp [inr_m1, h1, h2, t5, u6, l4, h7, h20]; done) | (simp [inr_m1, h1, h2, t5, u6, l4, h7, h20]; omega) | (simp only [u6]; omega) | (clear hr; (try clear hkn); simp_all; done))) | (simp only [t5]; done) | (exfalso; clear hr; (try clear hkn); simp_all; done)))))
        · -- inr nz pp
          refine v_iload_n dX9_plan_37 rfl 1 rfl ?_
          refine v_iconst (v := 2) dX9_plan_38 (by decide) ?_
          refine v_icmp_neN (a := P3) (b := 2) (tgt := 70) dX9_plan_39 (by decide) rfl rfl (by omega) (by omega) (fun h21 => ?_) (fun h21 => ?_)
          · -- P3 ne 2
            refine v_aload_n dX9_plan_70 rfl 0 rfl ?_
            refine v_get (v := .int (I 65 39)) fa_X9_129 dX9_plan_71 rfl (by decide) (ltn rfl) rfl ?_
            refine v_is hpn ?_
            refine v_bipush (v := 8) dX9_plan_74 (by decide) ?_
            refine v_icmp_neN (a := pn) (b := 8) (tgt := 82) dX9_plan_76 (by decide) rfl rfl (by omega) (by omega) (fun h22 => ?_) (fun h22 => ?_)
            · -- pn ne 8
              refine v_aload_n dX9_plan_82 rfl 0 rfl ?_
              refine v_get (v := .ref (g.1 + 92)) fa_X9_135 dX9_plan_83 rfl (by decide) (ltn rfl) rfl ?_
              refine v_aload_n dX9_plan_86 rfl 0 rfl ?_
              refine v_get (v := .int (I 65 39)) fa_X9_129 dX9_plan_87 rfl (by decide) (ltn rfl) rfl ?_
              refine v_is hpn ?_
              refine v_iload_n dX9_plan_90 rfl 1 rfl ?_
              refine v_iastore (len := 8) (j := pn) dX9_plan_91 rfl (ltn rfl) rfl (by decide) rfl (by omega) ?_
              refine v_aload_n dX9_plan_92 rfl 0 rfl ?_
              refine v_get (v := .ref (g.1 + 93)) fa_X9_138 dX9_plan_93 rfl (by decide) (ltn rfl) rfl ?_
              refine v_aload_n dX9_plan_96 rfl 0 rfl ?_
              refine v_get (v := .int (I 65 39)) fa_X9_129 dX9_plan_97 rfl (by decide) (ltn rfl) rfl ?_
              refine v_is hpn ?_
              refine v_iload_n dX9_plan_100 rfl 1 rfl ?_
              refine v_if_leN (a := P3) (tgt := 108) dX9_plan_101 (by decide) rfl (by omega) (fun h23 => ?_) (fun h23 => ?_)
              · -- P3 le 0
                refine v_iconst (v := 0) dX9_plan_108 (by decide) ?_
                refine v_iastore (len := 8) (j := pn) dX9_plan_109 rfl (ltn rfl) rfl (by decide) rfl (by omega) ?_
                refine v_aload_n dX9_plan_110 rfl 0 rfl ?_
                refine v_dup dX9_plan_111 rfl ?_
                refine v_get (v := .int (I 65 39)) fa_X9_129 dX9_plan_112 rfl (by decide) (ltn rfl) rfl ?_
                refine v_is hpn ?_
                refine v_iconst (v := 1) dX9_plan_115 (by decide) ?_
                refine v_iadd dX9_plan_116 ?_
                refine v_is (nx_add rfl rfl) ?_
                refine v_puti pa_X9_129 dX9_plan_117 rfl (by decide) (ltn rfl) (by show 39 < 73; decide) rfl ?_
                refine v_aload_n dX9_plan_120 rfl 0 rfl ?_
                refine v_get (v := .int (nI (pn + 1))) fa_X9_129 dX9_plan_121 rfl (by decide) (ltn rfl) rfl ?_
                exact v_iret hr dX9_plan_124 (psi (by first | rfl | (simp only [bq, ifc_T, ifc_F, inr_m1, and_true, true_and, and_false, false_and, or_true, true_or, or_false, false_or, not_true_eq_false, not_false_eq_true, and_self, or_self, h1, h2, t5, u6, l4, h7, h20, h21, h22, h23, planC]; done) | (simp [bq, ifc_T, ifc_F, inr_m1, h1, h2, t5, u6, l4, h7, h20, h21, h22, h23, planC]; done) | ((try simp only [bq, planC]); repeat (first | rfl | (refine eq_t ?_ ?_; focus (first | omega | assumption | (simp [inr_m1, h1, h2, t5, u6, l4, h7, h20, h21, h22, h23]; done) | (simp [inr_m1, h1, h2, t5, u6, l4, h7, h20, h21, h22, h23]; omega) | (simp only [u6]; omega) | (clear hr; (try clear hkn); simp_all; done))) | (refine eq_f ?_ ?_; focus (first | omega | assumption | (simp [inr_m1, h1, h2, t5, u6, l4, h7, h20, h21, h22, h23]; done) | (simp [inr_m1, h1, h2, t5, u6, l4, h7, h20, h21, h22, h23]; omega) | (simp only [u6]; omega) | (clear hr; (try clear hkn); simp_all; done))) | (simp only [t5]; done) | (exfalso; clear hr; (try clear hkn); simp_all; done)))) (by first | rfl | (simp only [bq, ifc_T, ifc_F, inr_m1, and_true, true_and, and_false, false_and, or_true, true_or, or_false, false_or, not_true_eq_false, not_false_eq_true, and_self, or_self, h1, h2, t5, u6, l4, h7, h20, h21, h22, h23, planC]; done) | (simp [bq, ifc_T, ifc_F, inr_m1, h1, h2, t5, u6, l4, h7, h20, h21, h22, h23, planC]; done) | ((try simp only [bq, planC]); repeat (first | rfl | (refine eq_t ?_ ?_; focus (first | omega | assumption | (simp [inr_m1, h1, h2, t5, u6, l4, h7, h20, h21, h22, h23]; done) | (simp [inr_m1, h1, h2, t5, u6, l4, h7, h20, h21, h22, h23]; omega) | (simp only [u6]; omega) | (clear hr; (try clear hkn); simp_all; done))) | (refine eq_f ?_ ?_; focus (first | omega | assumption | (simp [inr_m1, h1, h2, t5, u6, l4, h7, h20, h21, h22, h23]; done) | (simp [inr_m1, h1, h2, t5, u6, l4, h7, h20, h21, h22, h23]; omega) | (simp only [u6]; omega) | (clear hr; (try clear hkn); simp_all; done))) | (simp only [t5]; done) | (exfalso; clear hr; (try clear hkn); simp_all; done)))))
              · -- P3 gt 0
                refine v_iload_n dX9_plan_104 rfl 2 rfl ?_
                refine v_goto (tgt := 109) dX9_plan_105 (by decide) ?_
                refine v_iastore (len := 8) (j := pn) dX9_plan_109 rfl (ltn rfl) rfl (by decide) rfl (by omega) ?_
                refine v_aload_n dX9_plan_110 rfl 0 rfl ?_
                refine v_dup dX9_plan_111 rfl ?_
                refine v_get (v := .int (I 65 39)) fa_X9_129 dX9_plan_112 rfl (by decide) (ltn rfl) rfl ?_
                refine v_is hpn ?_
                refine v_iconst (v := 1) dX9_plan_115 (by decide) ?_
                refine v_iadd dX9_plan_116 ?_
                refine v_is (nx_add rfl rfl) ?_
                refine v_puti pa_X9_129 dX9_plan_117 rfl (by decide) (ltn rfl) (by show 39 < 73; decide) rfl ?_
                refine v_aload_n dX9_plan_120 rfl 0 rfl ?_
                refine v_get (v := .int (nI (pn + 1))) fa_X9_129 dX9_plan_121 rfl (by decide) (ltn rfl) rfl ?_
                exact v_iret hr dX9_plan_124 (psi (by first | rfl | (simp only [bq, ifc_T, ifc_F, inr_m1, and_true, true_and, and_false, false_and, or_true, true_or, or_false, false_or, not_true_eq_false, not_false_eq_true, and_self, or_self, h1, h2, t5, u6, l4, h7, h20, h21, h22, h23, planC]; done) | (simp [bq, ifc_T, ifc_F, inr_m1, h1, h2, t5, u6, l4, h7, h20, h21, h22, h23, planC]; done) | ((try simp only [bq, planC]); repeat (first | rfl | (refine eq_t ?_ ?_; focus (first | omega | assumption | (simp [inr_m1, h1, h2, t5, u6, l4, h7, h20, h21, h22, h23]; done) | (simp [inr_m1, h1, h2, t5, u6, l4, h7, h20, h21, h22, h23]; omega) | (simp only [u6]; omega) | (clear hr; (try clear hkn); simp_all; done))) | (refine eq_f ?_ ?_; focus (first | omega | assumption | (simp [inr_m1, h1, h2, t5, u6, l4, h7, h20, h21, h22, h23]; done) | (simp [inr_m1, h1, h2, t5, u6, l4, h7, h20, h21, h22, h23]; omega) | (simp only [u6]; omega) | (clear hr; (try clear hkn); simp_all; done))) | (simp only [t5]; done) | (exfalso; clear hr; (try clear hkn); simp_all; done)))) (by first | rfl | (simp only [bq, ifc_T, ifc_F, inr_m1, and_true, true_and, and_false, false_and, or_true, true_or, or_false, false_or, not_true_eq_false, not_false_eq_true, and_self, or_self, h1, h2, t5, u6, l4, h7, h20, h21, h22, h23, planC]; done) | (simp [bq, ifc_T, ifc_F, inr_m1, h1, h2, t5, u6, l4, h7, h20, h21, h22, h23, planC]; done) | ((try simp only [bq, planC]); repeat (first | rfl | (refine eq_t ?_ ?_; focus (first | omega | assumption | (simp [inr_m1, h1, h2, t5, u6, l4, h7, h20, h21, h22, h23]; done) | (simp [inr_m1, h1, h2, t5, u6, l4, h7, h20, h21, h22, h23]; omega) | (simp only [u6]; omega) | (clear hr; (try clear hkn); simp_all; done))) | (refine eq_f ?_ ?_; focus (first | omega | assumption | (simp [inr_m1, h1, h2, t5, u6, l4, h7, h20, h21, h22, h23]; done) | (simp [inr_m1, h1, h2, t5, u6, l4, h7, h20, h21, h22, h23]; omega) | (simp only [u6]; omega) | (clear hr; (try clear hkn); simp_all; done))) | (simp only [t5]; done) | (exfalso; clear hr; (try clear hkn); simp_all; done)))))
            · -- pn eq 8
              refine v_bipush (v := (-4)) dX9_plan_79 (by decide) ?_
              exact v_iret hr dX9_plan_81 (psi (by first | rfl | (simp only [bq, ifc_T, ifc_F, inr_m1, and_true, true_and, and_false, false_and, or_true, true_or, or_false, false_or, not_true_eq_false, not_false_eq_true, and_self, or_self, h1, h2, t5, u6, l4, h7, h20, h21, h22, planC]; done) | (simp [bq, ifc_T, ifc_F, inr_m1, h1, h2, t5, u6, l4, h7, h20, h21, h22, planC]; done) | ((try simp only [bq, planC]); repeat (first | rfl | (refine eq_t ?_ ?_; focus (first | omega | assumption | (simp [inr_m1, h1, h2, t5, u6, l4, h7, h20, h21, h22]; done) | (simp [inr_m1, h1, h2, t5, u6, l4, h7, h20, h21, h22]; omega) | (simp only [u6]; omega) | (clear hr; (try clear hkn); simp_all; done))) | (refine eq_f ?_ ?_; focus (first | omega | assumption | (simp [inr_m1, h1, h2, t5, u6, l4, h7, h20, h21, h22]; done) | (simp [inr_m1, h1, h2, t5, u6, l4, h7, h20, h21, h22]; omega) | (simp only [u6]; omega) | (clear hr; (try clear hkn); simp_all; done))) | (simp only [t5]; done) | (exfalso; clear hr; (try clear hkn); simp_all; done)))) (by first | rfl | (simp only [bq, ifc_T, ifc_F, inr_m1, and_true, true_and, and_false, false_and, or_true, true_or, or_false, false_or, not_true_eq_false, not_false_eq_true, and_self, or_self, h1, h2, t5, u6, l4, h7, h20, h21, h22, planC]; done) | (simp [bq, ifc_T, ifc_F, inr_m1, h1, h2, t5, u6, l4, h7, h20, h21, h22, planC]; done) | ((try simp only [bq, planC]); repeat (first | rfl | (refine eq_t ?_ ?_; focus (first | omega | assumption | (simp [inr_m1, h1, h2, t5, u6, l4, h7, h20, h21, h22]; done) | (simp [inr_m1, h1, h2, t5, u6, l4, h7, h20, h21, h22]; omega) | (simp only [u6]; omega) | (clear hr; (try clear hkn); simp_all; done))) | (refine eq_f ?_ ?_; focus (first | omega | assumption | (simp [inr_m1, h1, h2, t5, u6, l4, h7, h20, h21, h22]; done) | (simp [inr_m1, h1, h2, t5, u6, l4, h7, h20, h21, h22]; omega) | (simp only [u6]; omega) | (clear hr; (try clear hkn); simp_all; done))) | (simp only [t5]; done) | (exfalso; clear hr; (try clear hkn); simp_all; done)))))
          · -- P3 eq 2
            refine v_iload_n dX9_plan_42 rfl 2 rfl ?_
            refine v_if_lt (tgt := 68) dX9_plan_43 (by decide) (fun h24 => ?_) (fun h24 => ?_)
            · -- nz lt 0
              refine v_iconst (v := (-1)) dX9_plan_68 (by decide) ?_
              exact v_iret hr dX9_plan_69 (psi (by first | rfl | (simp only [bq, ifc_T, ifc_F, inr_m1, and_true, true_and, and_false, false_and, or_true, true_or, or_false, false_or, not_true_eq_false, not_false_eq_true, and_self, or_self, h1, h2, t5, u6, l4, h7, h20, h21, h24, planC]; done) | (simp [bq, ifc_T, ifc_F, inr_m1, h1, h2, t5, u6, l4, h7, h20, h21, h24, planC]; done) | ((try simp only [bq, planC]); repeat (first | rfl | (refine eq_t ?_ ?_; focus (first | omega | assumption | (simp [inr_m1, h1, h2, t5, u6, l4, h7, h20, h21, h24]; done) | (simp [inr_m1, h1, h2, t5, u6, l4, h7, h20, h21, h24]; omega) | (simp only [u6]; omega) | (clear hr; (try clear hkn); simp_all; done))) | (refine eq_f ?_ ?_; focus (first | omega | assumption | (simp [inr_m1, h1, h2, t5, u6, l4, h7, h20, h21, h24]; done) | (simp [inr_m1, h1, h2, t5, u6, l4, h7, h20, h21, h24]; omega) | (simp only [u6]; omega) | (clear hr; (try clear hkn); simp_all; done))) | (simp only [t5]; done) | (exfalso; clear hr; (try clear hkn); simp_all; done)))) (by first | rfl | (simp only [bq, ifc_T, ifc_F, inr_m1, and_true, true_and, and_false, false_and, or_true, true_or, or_false, false_or, not_true_eq_false, not_false_eq_true, and_self, or_self, h1, h2, t5, u6, l4, h7, h20, h21, h24, planC]; done) | (simp [bq, ifc_T, ifc_F, inr_m1, h1, h2, t5, u6, l4, h7, h20, h21, h24, planC]; done) | ((try simp only [bq, planC]); repeat (first | rfl | (refine eq_t ?_ ?_; focus (first | omega | assumption | (simp [inr_m1, h1, h2, t5, u6, l4, h7, h20, h21, h24]; done) | (simp [inr_m1, h1, h2, t5, u6, l4, h7, h20, h21, h24]; omega) | (simp only [u6]; omega) | (clear hr; (try clear hkn); simp_all; done))) | (refine eq_f ?_ ?_; focus (first | omega | assumption | (simp [inr_m1, h1, h2, t5, u6, l4, h7, h20, h21, h24]; done) | (simp [inr_m1, h1, h2, t5, u6, l4, h7, h20, h21, h24]; omega) | (simp only [u6]; omega) | (clear hr; (try clear hkn); simp_all; done))) | (simp only [t5]; done) | (exfalso; clear hr; (try clear hkn); simp_all; done)))))
            · -- nz ge 0
              refine v_aload_n dX9_plan_46 rfl 0 rfl ?_
              refine v_iload_n dX9_plan_47 rfl 2 rfl ?_
              refine v_bipush (v := 10) dX9_plan_48 (by decide) ?_
              refine v_idiv dX9_plan_50 (by decide) ?_
              refine v_callVi (As := [.int (nz / 10)]) (rest := []) lk_X9_245 (c_X9_isOne (nz / 10) pp hpp hpe) dX9_plan_51 rfl (ltn rfl) rfl rfl (Nat.le_of_ble_eq_true rfl) (by decide) ?_
              refine v_ifb_eq (tgt := 68) dX9_plan_54 (by decide) (fun h25 => ?_) (fun h25 => ?_)
              · -- not inr (nz / 10) pp
                refine v_iconst (v := (-1)) dX9_plan_68 (by decide) ?_
                exact v_iret hr dX9_plan_69 (psi (by first | rfl | (simp only [bq, ifc_T, ifc_F, inr_m1, and_true, true_and, and_false, false_and, or_true, true_or, or_false, false_or, not_true_eq_false, not_false_eq_true, and_self, or_self, h1, h2, t5, u6, l4, h7, h20, h21, h24, h25, planC]; done) | (simp [bq, ifc_T, ifc_F, inr_m1, h1, h2, t5, u6, l4, h7, h20, h21, h24, h25, planC]; done) | ((try simp only [bq, planC]); repeat (first | rfl | (refine eq_t ?_ ?_; focus (first | omega | assumption | (simp [inr_m1, h1, h2, t5, u6, l4, h7, h20, h21, h24, h25]; done) | (simp [inr_m1, h1, h2, t5, u6, l4, h7, h20, h21, h24, h25]; omega) | (simp only [u6]; omega) | (clear hr; (try clear hkn); simp_all; done))) | (refine eq_f ?_ ?_; focus (first | omega | assumption | (simp [inr_m1, h1, h2, t5, u6, l4, h7, h20, h21, h24, h25]; done) | (simp [inr_m1, h1, h2, t5, u6, l4, h7, h20, h21, h24, h25]; omega) | (simp only [u6]; omega) | (clear hr; (try clear hkn); simp_all; done))) | (simp only [t5]; done) | (exfalso; clear hr; (try clear hkn); simp_all; done)))) (by first | rfl | (simp only [bq, ifc_T, ifc_F, inr_m1, and_true, true_and, and_false, false_and, or_true, true_or, or_false, false_or, not_true_eq_false, not_false_eq_true, and_self, or_self, h1, h2, t5, u6, l4, h7, h20, h21, h24, h25, planC]; done) | (simp [bq, ifc_T, ifc_F, inr_m1, h1, h2, t5, u6, l4, h7, h20, h21, h24, h25, planC]; done) | ((try simp only [bq, planC]); repeat (first | rfl | (refine eq_t ?_ ?_; focus (first | omega | assumption | (simp [inr_m1, h1, h2, t5, u6, l4, h7, h20, h21, h24, h25]; done) | (simp [inr_m1, h1, h2, t5, u6, l4, h7, h20, h21, h24, h25]; omega) | (simp only [u6]; omega) | (clear hr; (try clear hkn); simp_all; done))) | (refine eq_f ?_ ?_; focus (first | omega | assumption | (simp [inr_m1, h1, h2, t5, u6, l4, h7, h20, h21, h24, h25]; done) | (simp [inr_m1, h1, h2, t5, u6, l4, h7, h20, h21, h24, h25]; omega) | (simp only [u6]; omega) | (clear hr; (try clear hkn); simp_all; done))) | (simp only [t5]; done) | (exfalso; clear hr; (try clear hkn); simp_all; done)))))
              · -- inr (nz / 10) pp
                have e26 := inr_nI h25
                have l27 := inr_lt h25
                refine v_aload_n dX9_plan_57 rfl 0 rfl ?_
                refine v_iload_n dX9_plan_58 rfl 2 rfl ?_
                refine v_bipush (v := 10) dX9_plan_59 (by decide) ?_
                refine v_irem dX9_plan_61 (by decide) ?_
                refine v_callVi (As := [.int (nz - nz / 10 * 10)]) (rest := []) lk_X9_245 (c_X9_isOne (nz - nz / 10 * 10) pp hpp hpe) dX9_plan_62 rfl (ltn rfl) rfl rfl (Nat.le_of_ble_eq_true rfl) (by decide) ?_
                refine v_ifb_ne (tgt := 70) dX9_plan_65 (by decide) (fun h28 => ?_) (fun h28 => ?_)
                · -- inr (nz - nz / 10 * 10) pp
                  have e29 := inr_nI h28
                  have l30 := inr_lt h28
                  refine v_aload_n dX9_plan_70 rfl 0 rfl ?_
                  refine v_get (v := .int (I 65 39)) fa_X9_129 dX9_plan_71 rfl (by decide) (ltn rfl) rfl ?_
                  refine v_is hpn ?_
                  refine v_bipush (v := 8) dX9_plan_74 (by decide) ?_
                  refine v_icmp_neN (a := pn) (b := 8) (tgt := 82) dX9_plan_76 (by decide) rfl rfl (by omega) (by omega) (fun h31 => ?_) (fun h31 => ?_)
                  · -- pn ne 8
                    refine v_aload_n dX9_plan_82 rfl 0 rfl ?_
                    refine v_get (v := .ref (g.1 + 92)) fa_X9_135 dX9_plan_83 rfl (by decide) (ltn rfl) rfl ?_
                    refine v_aload_n dX9_plan_86 rfl 0 rfl ?_
                    refine v_get (v := .int (I 65 39)) fa_X9_129 dX9_plan_87 rfl (by decide) (ltn rfl) rfl ?_
                    refine v_is hpn ?_
                    refine v_iload_n dX9_plan_90 rfl 1 rfl ?_
                    refine v_iastore (len := 8) (j := pn) dX9_plan_91 rfl (ltn rfl) rfl (by decide) rfl (by omega) ?_
                    refine v_aload_n dX9_plan_92 rfl 0 rfl ?_
                    refine v_get (v := .ref (g.1 + 93)) fa_X9_138 dX9_plan_93 rfl (by decide) (ltn rfl) rfl ?_
                    refine v_aload_n dX9_plan_96 rfl 0 rfl ?_
                    refine v_get (v := .int (I 65 39)) fa_X9_129 dX9_plan_97 rfl (by decide) (ltn rfl) rfl ?_
                    refine v_is hpn ?_
                    refine v_iload_n dX9_plan_100 rfl 1 rfl ?_
                    refine v_if_leN (a := P3) (tgt := 108) dX9_plan_101 (by decide) rfl (by omega) (fun h32 => ?_) (fun h32 => ?_)
                    · -- P3 le 0
                      refine v_iconst (v := 0) dX9_plan_108 (by decide) ?_
                      refine v_iastore (len := 8) (j := pn) dX9_plan_109 rfl (ltn rfl) rfl (by decide) rfl (by omega) ?_
                      refine v_aload_n dX9_plan_110 rfl 0 rfl ?_
                      refine v_dup dX9_plan_111 rfl ?_
                      refine v_get (v := .int (I 65 39)) fa_X9_129 dX9_plan_112 rfl (by decide) (ltn rfl) rfl ?_
                      refine v_is hpn ?_
                      refine v_iconst (v := 1) dX9_plan_115 (by decide) ?_
                      refine v_iadd dX9_plan_116 ?_
                      refine v_is (nx_add rfl rfl) ?_
                      refine v_puti pa_X9_129 dX9_plan_117 rfl (by decide) (ltn rfl) (by show 39 < 73; decide) rfl ?_
                      refine v_aload_n dX9_plan_120 rfl 0 rfl ?_
                      refine v_get (v := .int (nI (pn + 1))) fa_X9_129 dX9_plan_121 rfl (by decide) (ltn rfl) rfl ?_
                      exact v_iret hr dX9_plan_124 (psi (by first | rfl | (simp only [bq, ifc_T, ifc_F, inr_m1, and_true, true_and, and_false, false_and, or_true, true_or, or_false, false_or, not_true_eq_false, not_false_eq_true, and_self, or_self, h1, h2, t5, u6, l4, h7, h20, h21, h24, h25, h28, h31, h32, planC]; done) | (simp [bq, ifc_T, ifc_F, inr_m1, h1, h2, t5, u6, l4, h7, h20, h21, h24, h25, h28, h31, h32, planC]; done) | ((try simp only [bq, planC]); repeat (first | rfl | (refine eq_t ?_ ?_; focus (first | omega | assumption | (simp [inr_m1, h1, h2, t5, u6, l4, h7, h20, h21, h24, h25, h28, h31, h32]; done) | (simp [inr_m1, h1, h2, t5, u6, l4, h7, h20, h21, h24, h25, h28, h31, h32]; omega) | (simp only [u6]; omega) | (clear hr; (try clear hkn); (try clear e26); (try clear e29); simp_all; done))) | (refine eq_f ?_ ?_; focus (first | omega | assumption | (simp [inr_m1, h1, h2, t5, u6, l4, h7, h20, h21, h24, h25, h28, h31, h32]; done) | (simp [inr_m1, h1, h2, t5, u6, l4, h7, h20, h21, h24, h25, h28, h31, h32]; omega) | (simp only [u6]; omega) | (clear hr; (try clear hkn); (try clear e26); (try clear e29); simp_all; done))) | (simp only [t5]; done) | (exfalso; clear hr; (try clear hkn); (try clear e26); (try clear e29); simp_all; done)))) (by first | rfl | (simp only [bq, ifc_T, ifc_F, inr_m1, and_true, true_and, and_false, false_and, or_true, true_or, or_false, false_or, not_true_eq_false, not_false_eq_true, and_self, or_self, h1, h2, t5, u6, l4, h7, h20, h21, h24, h25, h28, h31, h32, planC]; done) | (simp [bq, ifc_T, ifc_F, inr_m1, h1, h2, t5, u6, l4, h7, h20, h21, h24, h25, h28, h31, h32, planC]; done) | ((try simp only [bq, planC]); repeat (first | rfl | (refine eq_t ?_ ?_; focus (first | omega | assumption | (simp [inr_m1, h1, h2, t5, u6, l4, h7, h20, h21, h24, h25, h28, h31, h32]; done) | (simp [inr_m1, h1, h2, t5, u6, l4, h7, h20, h21, h24, h25, h28, h31, h32]; omega) | (simp only [u6]; omega) | (clear hr; (try clear hkn); (try clear e26); (try clear e29); simp_all; done))) | (refine eq_f ?_ ?_; focus (first | omega | assumption | (simp [inr_m1, h1, h2, t5, u6, l4, h7, h20, h21, h24, h25, h28, h31, h32]; done) | (simp [inr_m1, h1, h2, t5, u6, l4, h7, h20, h21, h24, h25, h28, h31, h32]; omega) | (simp only [u6]; omega) | (clear hr; (try clear hkn); (try clear e26); (try clear e29); simp_all; done))) | (simp only [t5]; done) | (exfalso; clear hr; (try clear hkn); (try clear e26); (try clear e29); simp_all; done)))))
                    · -- P3 gt 0
                      refine v_iload_n dX9_plan_104 rfl 2 rfl ?_
                      refine v_goto (tgt := 109) dX9_plan_105 (by decide) ?_
                      refine v_iastore (len := 8) (j := pn) dX9_plan_109 rfl (ltn rfl) rfl (by decide) rfl (by omega) ?_
                      refine v_aload_n dX9_plan_110 rfl 0 rfl ?_
                      refine v_dup dX9_plan_111 rfl ?_
                      refine v_get (v := .int (I 65 39)) fa_X9_129 dX9_plan_112 rfl (by decide) (ltn rfl) rfl ?_
                      refine v_is hpn ?_
                      refine v_iconst (v := 1) dX9_plan_115 (by decide) ?_
                      refine v_iadd dX9_plan_116 ?_
                      refine v_is (nx_add rfl rfl) ?_
                      refine v_puti pa_X9_129 dX9_plan_117 rfl (by decide) (ltn rfl) (by show 39 < 73; decide) rfl ?_
                      refine v_aload_n dX9_plan_120 rfl 0 rfl ?_
                      refine v_get (v := .int (nI (pn + 1))) fa_X9_129 dX9_plan_121 rfl (by decide) (ltn rfl) rfl ?_
                      exact v_iret hr dX9_plan_124 (psi (by first | rfl | (simp only [bq, ifc_T, ifc_F, inr_m1, and_true, true_and, and_false, false_and, or_true, true_or, or_false, false_or, not_true_eq_false, not_false_eq_true, and_self, or_self, h1, h2, t5, u6, l4, h7, h20, h21, h24, h25, h28, h31, h32, planC]; done) | (simp [bq, ifc_T, ifc_F, inr_m1, h1, h2, t5, u6, l4, h7, h20, h21, h24, h25, h28, h31, h32, planC]; done) | ((try simp only [bq, planC]); repeat (first | rfl | (refine eq_t ?_ ?_; focus (first | omega | assumption | (simp [inr_m1, h1, h2, t5, u6, l4, h7, h20, h21, h24, h25, h28, h31, h32]; done) | (simp [inr_m1, h1, h2, t5, u6, l4, h7, h20, h21, h24, h25, h28, h31, h32]; omega) | (simp only [u6]; omega) | (clear hr; (try clear hkn); (try clear e26); (try clear e29); simp_all; done))) | (refine eq_f ?_ ?_; focus (first | omega | assumption | (simp [inr_m1, h1, h2, t5, u6, l4, h7, h20, h21, h24, h25, h28, h31, h32]; done) | (simp [inr_m1, h1, h2, t5, u6, l4, h7, h20, h21, h24, h25, h28, h31, h32]; omega) | (simp only [u6]; omega) | (clear hr; (try clear hkn); (try clear e26); (try clear e29); simp_all; done))) | (simp only [t5]; done) | (exfalso; clear hr; (try clear hkn); (try clear e26); (try clear e29); simp_all; done)))) (by first | rfl | (simp only [bq, ifc_T, ifc_F, inr_m1, and_true, true_and, and_false, false_and, or_true, true_or, or_false, false_or, not_true_eq_false, not_false_eq_true, and_self, or_self, h1, h2, t5, u6, l4, h7, h20, h21, h24, h25, h28, h31, h32, planC]; done) | (simp [bq, ifc_T, ifc_F, inr_m1, h1, h2, t5, u6, l4, h7, h20, h21, h24, h25, h28, h31, h32, planC]; done) | ((try simp only [bq, planC]); repeat (first | rfl | (refine eq_t ?_ ?_; focus (first | omega | assumption | (simp [inr_m1, h1, h2, t5, u6, l4, h7, h20, h21, h24, h25, h28, h31, h32]; done) | (simp [inr_m1, h1, h2, t5, u6, l4, h7, h20, h21, h24, h25, h28, h31, h32]; omega) | (simp only [u6]; omega) | (clear hr; (try clear hkn); (try clear e26); (try clear e29); simp_all; done))) | (refine eq_f ?_ ?_; focus (first | omega | assumption | (simp [inr_m1, h1, h2, t5, u6, l4, h7, h20, h21, h24, h25, h28, h31, h32]; done) | (simp [inr_m1, h1, h2, t5, u6, l4, h7, h20, h21, h24, h25, h28, h31, h32]; omega) | (simp only [u6]; omega) | (clear hr; (try clear hkn); (try clear e26); (try clear e29); simp_all; done))) | (simp only [t5]; done) | (exfalso; clear hr; (try clear hkn); (try clear e26); (try clear e29); simp_all; done)))))
                  · -- pn eq 8
                    refine v_bipush (v := (-4)) dX9_plan_79 (by decide) ?_
                    exact v_iret hr dX9_plan_81 (psi (by first | rfl | (simp only [bq, ifc_T, ifc_F, inr_m1, and_true, true_and, and_false, false_and, or_true, true_or, or_false, false_or, not_true_eq_false, not_false_eq_true, and_self, or_self, h1, h2, t5, u6, l4, h7, h20, h21, h24, h25, h28, h31, planC]; done) | (simp [bq, ifc_T, ifc_F, inr_m1, h1, h2, t5, u6, l4, h7, h20, h21, h24, h25, h28, h31, planC]; done) | ((try simp only [bq, planC]); repeat (first | rfl | (refine eq_t ?_ ?_; focus (first | omega | assumption | (simp [inr_m1, h1, h2, t5, u6, l4, h7, h20, h21, h24, h25, h28, h31]; done) | (simp [inr_m1, h1, h2, t5, u6, l4, h7, h20, h21, h24, h25, h28, h31]; omega) | (simp only [u6]; omega) | (clear hr; (try clear hkn); (try clear e26); (try clear e29); simp_all; done))) | (refine eq_f ?_ ?_; focus (first | omega | assumption | (simp [inr_m1, h1, h2, t5, u6, l4, h7, h20, h21, h24, h25, h28, h31]; done) | (simp [inr_m1, h1, h2, t5, u6, l4, h7, h20, h21, h24, h25, h28, h31]; omega) | (simp only [u6]; omega) | (clear hr; (try clear hkn); (try clear e26); (try clear e29); simp_all; done))) | (simp only [t5]; done) | (exfalso; clear hr; (try clear hkn); (try clear e26); (try clear e29); simp_all; done)))) (by first | rfl | (simp only [bq, ifc_T, ifc_F, inr_m1, and_true, true_and, and_false, false_and, or_true, true_or, or_false, false_or, not_true_eq_false, not_false_eq_true, and_self, or_self, h1, h2, t5, u6, l4, h7, h20, h21, h24, h25, h28, h31, planC]; done) | (simp [bq, ifc_T, ifc_F, inr_m1, h1, h2, t5, u6, l4, h7, h20, h21, h24, h25, h28, h31, planC]; done) | ((try simp only [bq, planC]); repeat (first | rfl | (refine eq_t ?_ ?_; focus (first | omega | assumption | (simp [inr_m1, h1, h2, t5, u6, l4, h7, h20, h21, h24, h25, h28, h31]; done) | (simp [inr_m1, h1, h2, t5, u6, l4, h7, h20, h21, h24, h25, h28, h31]; omega) | (simp only [u6]; omega) | (clear hr; (try clear hkn); (try clear e26); (try clear e29); simp_all; done))) | (refine eq_f ?_ ?_; focus (first | omega | assumption | (simp [inr_m1, h1, h2, t5, u6, l4, h7, h20, h21, h24, h25, h28, h31]; done) | (simp [inr_m1, h1, h2, t5, u6, l4, h7, h20, h21, h24, h25, h28, h31]; omega) | (simp only [u6]; omega) | (clear hr; (try clear hkn); (try clear e26); (try clear e29); simp_all; done))) | (simp only [t5]; done) | (exfalso; clear hr; (try clear hkn); (try clear e26); (try clear e29); simp_all; done)))))
                · -- not inr (nz - nz / 10 * 10) pp
                  refine v_iconst (v := (-1)) dX9_plan_68 (by decide) ?_
                  exact v_iret hr dX9_plan_69 (psi (by first | rfl | (simp only [bq, ifc_T, ifc_F, inr_m1, and_true, true_and, and_false, false_and, or_true, true_or, or_false, false_or, not_true_eq_false, not_false_eq_true, and_self, or_self, h1, h2, t5, u6, l4, h7, h20, h21, h24, h25, h28, planC]; done) | (simp [bq, ifc_T, ifc_F, inr_m1, h1, h2, t5, u6, l4, h7, h20, h21, h24, h25, h28, planC]; done) | ((try simp only [bq, planC]); repeat (first | rfl | (refine eq_t ?_ ?_; focus (first | omega | assumption | (simp [inr_m1, h1, h2, t5, u6, l4, h7, h20, h21, h24, h25, h28]; done) | (simp [inr_m1, h1, h2, t5, u6, l4, h7, h20, h21, h24, h25, h28]; omega) | (simp only [u6]; omega) | (clear hr; (try clear hkn); (try clear e26); simp_all; done))) | (refine eq_f ?_ ?_; focus (first | omega | assumption | (simp [inr_m1, h1, h2, t5, u6, l4, h7, h20, h21, h24, h25, h28]; done) | (simp [inr_m1, h1, h2, t5, u6, l4, h7, h20, h21, h24, h25, h28]; omega) | (simp only [u6]; omega) | (clear hr; (try clear hkn); (try clear e26); simp_all; done))) | (simp only [t5]; done) | (exfalso; clear hr; (try clear hkn); (try clear e26); simp_all; done)))) (by first | rfl | (simp only [bq, ifc_T, ifc_F, inr_m1, and_true, true_and, and_false, false_and, or_true, true_or, or_false, false_or, not_true_eq_false, not_false_eq_true, and_self, or_self, h1, h2, t5, u6, l4, h7, h20, h21, h24, h25, h28, planC]; done) | (simp [bq, ifc_T, ifc_F, inr_m1, h1, h2, t5, u6, l4, h7, h20, h21, h24, h25, h28, planC]; done) | ((try simp only [bq, planC]); repeat (first | rfl | (refine eq_t ?_ ?_; focus (first | omega | assumption | (simp [inr_m1, h1, h2, t5, u6, l4, h7, h20, h21, h24, h25, h28]; done) | (simp [inr_m1, h1, h2, t5, u6, l4, h7, h20, h21, h24, h25, h28]; omega) | (simp only [u6]; omega) | (clear hr; (try clear hkn); (try clear e26); simp_all; done))) | (refine eq_f ?_ ?_; focus (first | omega | assumption | (simp [inr_m1, h1, h2, t5, u6, l4, h7, h20, h21, h24, h25, h28]; done) | (simp [inr_m1, h1, h2, t5, u6, l4, h7, h20, h21, h24, h25, h28]; omega) | (simp only [u6]; omega) | (clear hr; (try clear hkn); (try clear e26); simp_all; done))) | (simp only [t5]; done) | (exfalso; clear hr; (try clear hkn); (try clear e26); simp_all; done)))))
  · -- wz eq (-1)
    refine v_aload_n dX9_plan_5 rfl 0 rfl ?_
    refine v_iconst (v := 0) dX9_plan_6 (by decide) ?_
    refine v_puti pa_X9_129 dX9_plan_7 rfl (by decide) (ltn rfl) (by show 39 < 73; decide) rfl ?_
    refine v_iconst (v := 0) dX9_plan_10 (by decide) ?_
    exact v_iret hr dX9_plan_11 (psi (by first | rfl | (simp only [bq, ifc_T, ifc_F, inr_m1, and_true, true_and, and_false, false_and, or_true, true_or, or_false, false_or, not_true_eq_false, not_false_eq_true, and_self, or_self, h1, planC]; done) | (simp [bq, ifc_T, ifc_F, inr_m1, h1, planC]; done) | ((try simp only [bq, planC]); repeat (first | rfl | (refine eq_t ?_ ?_; focus (first | omega | assumption | (simp [inr_m1, h1]; done) | (simp [inr_m1, h1]; omega) | (clear hr; (try clear hkn); simp_all; done))) | (refine eq_f ?_ ?_; focus (first | omega | assumption | (simp [inr_m1, h1]; done) | (simp [inr_m1, h1]; omega) | (clear hr; (try clear hkn); simp_all; done))) | (exfalso; clear hr; (try clear hkn); simp_all; done)))) (by first | rfl | (simp only [bq, ifc_T, ifc_F, inr_m1, and_true, true_and, and_false, false_and, or_true, true_or, or_false, false_or, not_true_eq_false, not_false_eq_true, and_self, or_self, h1, planC]; done) | (simp [bq, ifc_T, ifc_F, inr_m1, h1, planC]; done) | ((try simp only [bq, planC]); repeat (first | rfl | (refine eq_t ?_ ?_; focus (first | omega | assumption | (simp [inr_m1, h1]; done) | (simp [inr_m1, h1]; omega) | (clear hr; (try clear hkn); simp_all; done))) | (refine eq_f ?_ ?_; focus (first | omega | assumption | (simp [inr_m1, h1]; done) | (simp [inr_m1, h1]; omega) | (clear hr; (try clear hkn); simp_all; done))) | (exfalso; clear hr; (try clear hkn); simp_all; done)))))
