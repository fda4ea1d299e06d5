theorem rng0 {x lo hi : Int32} {a b : Nat} (h : lo ≤ x ∧ x ≤ hi) (ha : lo = nI a) (hb : hi = nI b) (ha2 : a < 2 ^ 31) (hb2 : b < 2 ^ 31) : x = nI (tn x) ∧ a ≤ tn x ∧ tn x ≤ b := by
  refine rng h ha hb hb2 ?_
  subst ha; subst hb
  have h1 := Int32.le_iff_toInt_le.mp h.1
  have h2 := Int32.le_iff_toInt_le.mp h.2
  rw [nI_toInt ha2] at h1
  rw [nI_toInt hb2] at h2
  omega
noncomputable def onW (I : Ty) (pp : Nat) (nz wt : Nat) : Int32 := ifc (wt < 20) ((hrN (I 66) (I 67) (I 68) (I 70) (I 73) pp (msum I) (mfade I) (lessM 2000000000) (mgetH I) nz).1.1 (wt - 10)) (ifc (wt < 30) ((hrN (I 66) (I 67) (I 68) (I 70) (I 73) pp (msum I) (mfade I) (lessM 2000000000) (mgetH I) nz).1.2.1 (wt - 20)) ((hrN (I 66) (I 67) (I 68) (I 70) (I 73) pp (msum I) (mfade I) (lessM 2000000000) (mgetH I) nz).1.2.2 (wt - 30)))
set_option maxRecDepth 100000 in
set_option maxHeartbeats 4000000 in
theorem c_X9_on {g : Gl} {I : Ty} {L : TL} {na nt ni m : Nat} {nl : Nat → Nat} (nz : Int32) (wz : Int32) (pp : Nat) (hpp : pp ≤ 6) (hpe : I 65 0 = nI pp) (hN : mOK I) (hS : okS (mget I)) (hG : okG (I 70)) (hM : I 65 29 = 9999) : Ct g yX9_on cX9_on 4 (some .int) 7 0 0 [.ref (g.1 + 65), .int nz, .int wz] I L (RT na nt ni) (NT nl) (NB + m) (Pk (some (.int (ifc (onC pp wz) (ifc (inr nz 41) (onW I pp (tn nz) (tn wz)) (-2)) (-1)))) (I) L (RT na nt ni) (NT nl) (NB + m)) := by
  refine ct_of (by decide +kernel) (Nat.le_of_ble_eq_true rfl) (fun F hnm hr => ?_)
  clear hnm
  show V g F cX9_on RX9 4 7 0 [(0, .ref (g.1 + 65)), (1, .int nz), (2, .int wz)] [] I L (RT na nt ni) (NT nl) (NB + m) 0 0
  refine v_aload_n dX9_on_0 rfl 0 rfl ?_
  refine v_iload_n dX9_on_1 rfl 2 rfl ?_
  refine v_bipush (v := 10) dX9_on_2 (by decide) ?_
  refine v_bipush (v := 9) dX9_on_4 (by decide) ?_
  refine v_aload_n dX9_on_6 rfl 0 rfl ?_
  refine v_get (v := .int (I 65 0)) fa_X9_7 dX9_on_7 rfl (by decide) (ltn rfl) rfl ?_
  refine v_is hpe ?_
  refine v_iadd dX9_on_10 ?_
  refine v_is (nx_add rfl rfl) ?_
  refine v_callVi (As := [.int wz, .int 10, .int (nI (9 + pp))]) (rest := []) lk_X9_237 (c_X9_in wz 10 (nI (9 + pp))) dX9_on_11 rfl (ltn rfl) rfl rfl (Nat.le_of_ble_eq_true rfl) (by decide) ?_
  refine v_ifb_ne (tgt := 53) dX9_on_14 (by decide) (fun h1 => ?_) (fun h1 => ?_)
  · -- (10 ≤ wz ∧ wz ≤ nI (9 + pp))
    have honc : onC pp wz := Or.inl h1
    obtain ⟨hkn, hw1, hw2⟩ := rng0 h1 (a := 10) (b := 9 + pp) rfl rfl (by decide) (show 9 + pp < 2 ^ 31 by omega)
    refine v_aload_n dX9_on_53 rfl 0 rfl ?_
    refine v_iload_n dX9_on_54 rfl 1 rfl ?_
    refine v_callVi (As := [.int nz]) (rest := []) lk_X9_352 (c_X9_isHours nz) dX9_on_55 rfl (ltn rfl) rfl rfl (Nat.le_of_ble_eq_true rfl) (by decide) ?_
    refine v_ifb_ne (tgt := 64) dX9_on_58 (by decide) (fun h2 => ?_) (fun h2 => ?_)
    · -- inr nz 41
      obtain ⟨P3, rfl, l4, t5, u6⟩ := inr_ex h2 (by omega)
      refine v_aload_n dX9_on_64 rfl 0 rfl ?_
      refine v_callVv (As := []) (rest := []) lk_X9_359 (c_X9_save) dX9_on_65 rfl (ltn rfl) rfl rfl (Nat.le_of_ble_eq_true rfl) (by decide) ?_
      refine v_aload_n dX9_on_68 rfl 0 rfl ?_
      refine v_iload_n dX9_on_69 rfl 1 rfl ?_
      refine v_callVqv (As := [.int (nI P3)]) (rest := []) lk_X9_355 (c_X9_goHours (I := (svd I)) P3 (by omega) pp hpp hpe hN hS hG) dX9_on_70 rfl (ltn rfl) rfl rfl (Nat.le_of_ble_eq_true rfl) (by decide) (fun fq7 hq8 => ?_)
      refine v_I (I2 := (scr (mputH (svd I) (hrN (I 66) (I 67) (I 68) (I 70) (I 73) pp (msum I) (mfade I) (lessM 2000000000) (mgetH I) P3)) fq7 hq8)) rfl ?_
      refine v_iload_n dX9_on_73 rfl 2 rfl ?_
      refine v_bipush (v := 20) dX9_on_74 (by decide) ?_
      refine v_icmp_geN (a := (tn wz)) (b := 20) (tgt := 91) dX9_on_76 (by decide) hkn rfl (by omega) (by omega) (fun h => by exfalso; omega) (fun h9 => ?_)
      refine v_aload_n dX9_on_79 rfl 0 rfl ?_
      refine v_get (v := .ref (g.1 + 69)) fa_X9_26 dX9_on_80 rfl (by decide) (ltn rfl) rfl ?_
      refine v_iload_n dX9_on_83 rfl 2 rfl ?_
      refine v_bipush (v := 10) dX9_on_84 (by decide) ?_
      refine v_isub dX9_on_86 ?_
      refine v_is (nx_sub (a := (tn wz)) (b := 10) hkn rfl (by omega)) ?_
      refine v_iaload (len := 6) (j := ((tn wz) - 10)) dX9_on_87 rfl (ltn rfl) rfl (by decide) rfl (by omega) ?_
      refine v_is (y := (hrN (I 66) (I 67) (I 68) (I 70) (I 73) pp (msum I) (mfade I) (lessM 2000000000) (mgetH I) P3).1.1 ((tn wz) - 10)) (by rfl) ?_
      refine v_goto (tgt := 118) dX9_on_88 (by decide) ?_
      refine v_istore_n (lv2 := [(3, .int ((hrN (I 66) (I 67) (I 68) (I 70) (I 73) pp (msum I) (mfade I) (lessM 2000000000) (mgetH I) P3).1.1 ((tn wz) - 10))), (0, .ref (g.1 + 65)), (1, .int (nI P3)), (2, .int wz)]) dX9_on_118 rfl (by decide) rfl ?_
      refine v_aload_n dX9_on_119 rfl 1 rfl ?_
      refine v_callVv (As := []) (rest := []) lk_X9_362 (c_X9_putBack (I := (scr (mputH (svd I) (hrN (I 66) (I 67) (I 68) (I 70) (I 73) pp (msum I) (mfade I) (lessM 2000000000) (mgetH I) P3)) fq7 hq8))) dX9_on_120 rfl (ltn rfl) rfl rfl (Nat.le_of_ble_eq_true rfl) (by decide) ?_
      refine v_I (pb_trial hM _ _ _ (hrN_off hpp _)) ?_
      refine v_iload_n dX9_on_123 rfl 0 rfl ?_
      exact v_iret hr dX9_on_124 (⟨congrArg (fun z => some (Value.int z)) (by first | rfl | (simp only [bq, ifc_T, ifc_F, inr_m1, and_true, true_and, and_false, false_and, or_true, true_or, or_false, false_or, not_true_eq_false, not_false_eq_true, and_self, or_self, h1, honc, h2, t5, u6, l4, h9, onW]; done) | (simp [bq, ifc_T, ifc_F, inr_m1, h1, honc, h2, t5, u6, l4, h9, onW]; done) | ((try simp only [bq, onW]); repeat (first | rfl | (refine eq_t ?_ ?_; focus (first | omega | assumption | (simp [inr_m1, h1, honc, h2, t5, u6, l4, h9]; done) | (simp [inr_m1, h1, honc, h2, t5, u6, l4, h9]; omega) | (simp only [u6]; omega) | (clear hr; (try clear hkn); simp_all; done))) | (refine eq_f ?_ ?_; focus (first | omega | assumption | (simp [inr_m1, h1, honc, h2, t5, u6, l4, h9]; done) | (simp [inr_m1, h1, honc, h2, t5, u6, l4, h9]; omega) | (simp only [u6]; omega) | (clear hr; (try clear hkn); simp_all; done))) | (simp only [t5]; done) | (exfalso; clear hr; (try clear hkn); simp_all; done)))), ⟨_, _, rfl⟩, rfl, rfl, rfl, rfl⟩)
    · -- not inr nz 41
      refine v_bipush (v := (-2)) dX9_on_61 (by decide) ?_
      exact v_iret hr dX9_on_63 (⟨congrArg (fun z => some (Value.int z)) (by first | rfl | (simp only [bq, ifc_T, ifc_F, inr_m1, and_true, true_and, and_false, false_and, or_true, true_or, or_false, false_or, not_true_eq_false, not_false_eq_true, and_self, or_self, h1, honc, h2, onW]; done) | (simp [bq, ifc_T, ifc_F, inr_m1, h1, honc, h2, onW]; done) | ((try simp only [bq, onW]); repeat (first | rfl | (refine eq_t ?_ ?_; focus (first | omega | assumption | (simp [inr_m1, h1, honc, h2]; done) | (simp [inr_m1, h1, honc, h2]; omega) | (clear hr; (try clear hkn); simp_all; done))) | (refine eq_f ?_ ?_; focus (first | omega | assumption | (simp [inr_m1, h1, honc, h2]; done) | (simp [inr_m1, h1, honc, h2]; omega) | (clear hr; (try clear hkn); simp_all; done))) | (exfalso; clear hr; (try clear hkn); simp_all; done)))), ⟨_, _, sck_self I⟩, rfl, rfl, rfl, rfl⟩)
  · -- not (10 ≤ wz ∧ wz ≤ nI (9 + pp))
    refine v_aload_n dX9_on_17 rfl 0 rfl ?_
    refine v_iload_n dX9_on_18 rfl 2 rfl ?_
    refine v_bipush (v := 20) dX9_on_19 (by decide) ?_
    refine v_bipush (v := 19) dX9_on_21 (by decide) ?_
    refine v_aload_n dX9_on_23 rfl 0 rfl ?_
    refine v_get (v := .int (I 65 0)) fa_X9_7 dX9_on_24 rfl (by decide) (ltn rfl) rfl ?_
    refine v_is hpe ?_
    refine v_iadd dX9_on_27 ?_
    refine v_is (nx_add rfl rfl) ?_
    refine v_callVi (As := [.int wz, .int 20, .int (nI (19 + pp))]) (rest := []) lk_X9_237 (c_X9_in wz 20 (nI (19 + pp))) dX9_on_28 rfl (ltn rfl) rfl rfl (Nat.le_of_ble_eq_true rfl) (by decide) ?_
    refine v_ifb_ne (tgt := 53) dX9_on_31 (by decide) (fun h10 => ?_) (fun h10 => ?_)
    · -- (20 ≤ wz ∧ wz ≤ nI (19 + pp))
      have honc : onC pp wz := Or.inr (Or.inl h10)
      obtain ⟨hkn, hw1, hw2⟩ := rng0 h10 (a := 20) (b := 19 + pp) rfl rfl (by decide) (show 19 + pp < 2 ^ 31 by omega)
      refine v_aload_n dX9_on_53 rfl 0 rfl ?_
      refine v_iload_n dX9_on_54 rfl 1 rfl ?_
      refine v_callVi (As := [.int nz]) (rest := []) lk_X9_352 (c_X9_isHours nz) dX9_on_55 rfl (ltn rfl) rfl rfl (Nat.le_of_ble_eq_true rfl) (by decide) ?_
      refine v_ifb_ne (tgt := 64) dX9_on_58 (by decide) (fun h11 => ?_) (fun h11 => ?_)
      · -- inr nz 41
        obtain ⟨P12, rfl, l13, t14, u15⟩ := inr_ex h11 (by omega)
        refine v_aload_n dX9_on_64 rfl 0 rfl ?_
        refine v_callVv (As := []) (rest := []) lk_X9_359 (c_X9_save) dX9_on_65 rfl (ltn rfl) rfl rfl (Nat.le_of_ble_eq_true rfl) (by decide) ?_
        refine v_aload_n dX9_on_68 rfl 0 rfl ?_
        refine v_iload_n dX9_on_69 rfl 1 rfl ?_
        refine v_callVqv (As := [.int (nI P12)]) (rest := []) lk_X9_355 (c_X9_goHours (I := (svd I)) P12 (by omega) pp hpp hpe hN hS hG) dX9_on_70 rfl (ltn rfl) rfl rfl (Nat.le_of_ble_eq_true rfl) (by decide) (fun fq16 hq17 => ?_)
        refine v_I (I2 := (scr (mputH (svd I) (hrN (I 66) (I 67) (I 68) (I 70) (I 73) pp (msum I) (mfade I) (lessM 2000000000) (mgetH I) P12)) fq16 hq17)) rfl ?_
        refine v_iload_n dX9_on_73 rfl 2 rfl ?_
        refine v_bipush (v := 20) dX9_on_74 (by decide) ?_
        refine v_icmp_geN (a := (tn wz)) (b := 20) (tgt := 91) dX9_on_76 (by decide) hkn rfl (by omega) (by omega) (fun h18 => ?_) (fun h => by exfalso; omega)
        refine v_iload_n dX9_on_91 rfl 2 rfl ?_
        refine v_bipush (v := 30) dX9_on_92 (by decide) ?_
        refine v_icmp_geN (a := (tn wz)) (b := 30) (tgt := 109) dX9_on_94 (by decide) hkn rfl (by omega) (by omega) (fun h => by exfalso; omega) (fun h19 => ?_)
        refine v_aload_n dX9_on_97 rfl 0 rfl ?_
        refine v_get (v := .ref (g.1 + 71)) fa_X9_32 dX9_on_98 rfl (by decide) (ltn rfl) rfl ?_
        refine v_iload_n dX9_on_101 rfl 2 rfl ?_
        refine v_bipush (v := 20) dX9_on_102 (by decide) ?_
        refine v_isub dX9_on_104 ?_
        refine v_is (nx_sub (a := (tn wz)) (b := 20) hkn rfl (by omega)) ?_
        refine v_iaload (len := 6) (j := ((tn wz) - 20)) dX9_on_105 rfl (ltn rfl) rfl (by decide) rfl (by omega) ?_
        refine v_is (y := (hrN (I 66) (I 67) (I 68) (I 70) (I 73) pp (msum I) (mfade I) (lessM 2000000000) (mgetH I) P12).1.2.1 ((tn wz) - 20)) (by rfl) ?_
        refine v_goto (tgt := 118) dX9_on_106 (by decide) ?_
        refine v_istore_n (lv2 := [(3, .int ((hrN (I 66) (I 67) (I 68) (I 70) (I 73) pp (msum I) (mfade I) (lessM 2000000000) (mgetH I) P12).1.2.1 ((tn wz) - 20))), (0, .ref (g.1 + 65)), (1, .int (nI P12)), (2, .int wz)]) dX9_on_118 rfl (by decide) rfl ?_
        refine v_aload_n dX9_on_119 rfl 1 rfl ?_
        refine v_callVv (As := []) (rest := []) lk_X9_362 (c_X9_putBack (I := (scr (mputH (svd I) (hrN (I 66) (I 67) (I 68) (I 70) (I 73) pp (msum I) (mfade I) (lessM 2000000000) (mgetH I) P12)) fq16 hq17))) dX9_on_120 rfl (ltn rfl) rfl rfl (Nat.le_of_ble_eq_true rfl) (by decide) ?_
        refine v_I (pb_trial hM _ _ _ (hrN_off hpp _)) ?_
        refine v_iload_n dX9_on_123 rfl 0 rfl ?_
        exact v_iret hr dX9_on_124 (⟨congrArg (fun z => some (Value.int z)) (by first | rfl | (simp only [bq, ifc_T, ifc_F, inr_m1, and_true, true_and, and_false, false_and, or_true, true_or, or_false, false_or, not_true_eq_false, not_false_eq_true, and_self, or_self, h1, h10, honc, h11, t14, u15, l13, h18, h19, onW]; done) | (simp [bq, ifc_T, ifc_F, inr_m1, h1, h10, honc, h11, t14, u15, l13, h18, h19, onW]; done) | ((try simp only [bq, onW]); repeat (first | rfl | (refine eq_t ?_ ?_; focus (first | omega | assumption | (simp [inr_m1, h1, h10, honc, h11, t14, u15, l13, h18, h19]; done) | (simp [inr_m1, h1, h10, honc, h11, t14, u15, l13, h18, h19]; omega) | (simp only [u15]; omega) | (clear hr; (try clear hkn); simp_all; done))) | (refine eq_f ?_ ?_; focus (first | omega | assumption | (simp [inr_m1, h1, h10, honc, h11, t14, u15, l13, h18, h19]; done) | (simp [inr_m1, h1, h10, honc, h11, t14, u15, l13, h18, h19]; omega) | (simp only [u15]; omega) | (clear hr; (try clear hkn); simp_all; done))) | (simp only [t14]; done) | (exfalso; clear hr; (try clear hkn); simp_all; done)))), ⟨_, _, rfl⟩, rfl, rfl, rfl, rfl⟩)
      · -- not inr nz 41
        refine v_bipush (v := (-2)) dX9_on_61 (by decide) ?_
        exact v_iret hr dX9_on_63 (⟨congrArg (fun z => some (Value.int z)) (by first | rfl | (simp only [bq, ifc_T, ifc_F, inr_m1, and_true, true_and, and_false, false_and, or_true, true_or, or_false, false_or, not_true_eq_false, not_false_eq_true, and_self, or_self, h1, h10, honc, h11, onW]; done) | (simp [bq, ifc_T, ifc_F, inr_m1, h1, h10, honc, h11, onW]; done) | ((try simp only [bq, onW]); repeat (first | rfl | (refine eq_t ?_ ?_; focus (first | omega | assumption | (simp [inr_m1, h1, h10, honc, h11]; done) | (simp [inr_m1, h1, h10, honc, h11]; omega) | (clear hr; (try clear hkn); simp_all; done))) | (refine eq_f ?_ ?_; focus (first | omega | assumption | (simp [inr_m1, h1, h10, honc, h11]; done) | (simp [inr_m1, h1, h10, honc, h11]; omega) | (clear hr; (try clear hkn); simp_all; done))) | (exfalso; clear hr; (try clear hkn); simp_all; done)))), ⟨_, _, sck_self I⟩, rfl, rfl, rfl, rfl⟩)
    · -- not (20 ≤ wz ∧ wz ≤ nI (19 + pp))
      refine v_aload_n dX9_on_34 rfl 0 rfl ?_
      refine v_iload_n dX9_on_35 rfl 2 rfl ?_
      refine v_bipush (v := 30) dX9_on_36 (by decide) ?_
      refine v_bipush (v := 29) dX9_on_38 (by decide) ?_
      refine v_aload_n dX9_on_40 rfl 0 rfl ?_
      refine v_get (v := .int (I 65 0)) fa_X9_7 dX9_on_41 rfl (by decide) (ltn rfl) rfl ?_
      refine v_is hpe ?_
      refine v_iadd dX9_on_44 ?_
      refine v_is (nx_add rfl rfl) ?_
      refine v_callVi (As := [.int wz, .int 30, .int (nI (29 + pp))]) (rest := []) lk_X9_237 (c_X9_in wz 30 (nI (29 + pp))) dX9_on_45 rfl (ltn rfl) rfl rfl (Nat.le_of_ble_eq_true rfl) (by decide) ?_
      refine v_ifb_ne (tgt := 53) dX9_on_48 (by decide) (fun h20 => ?_) (fun h20 => ?_)
      · -- (30 ≤ wz ∧ wz ≤ nI (29 + pp))
        have honc : onC pp wz := Or.inr (Or.inr h20)
        obtain ⟨hkn, hw1, hw2⟩ := rng0 h20 (a := 30) (b := 29 + pp) rfl rfl (by decide) (show 29 + pp < 2 ^ 31 by omega)
        refine v_aload_n dX9_on_53 rfl 0 rfl ?_
        refine v_iload_n dX9_on_54 rfl 1 rfl ?_
        refine v_callVi (As := [.int nz]) (rest := []) lk_X9_352 (c_X9_isHours nz) dX9_on_55 rfl (ltn rfl) rfl rfl (Nat.le_of_ble_eq_true rfl) (by decide) ?_
        refine v_ifb_ne (tgt := 64) dX9_on_58 (by decide) (fun h21 => ?_) (fun h21 => ?_)
        · -- inr nz 41
          obtain ⟨P22, rfl, l23, t24, u25⟩ := inr_ex h21 (by omega)
          refine v_aload_n dX9_on_64 rfl 0 rfl ?_
          refine v_callVv (As := []) (rest := []) lk_X9_359 (c_X9_save) dX9_on_65 rfl (ltn rfl) rfl rfl (Nat.le_of_ble_eq_true rfl) (by decide) ?_
          refine v_aload_n dX9_on_68 rfl 0 rfl ?_
          refine v_iload_n dX9_on_69 rfl 1 rfl ?_
          refine v_callVqv (As := [.int (nI P22)]) (rest := []) lk_X9_355 (c_X9_goHours (I := (svd I)) P22 (by omega) pp hpp hpe hN hS hG) dX9_on_70 rfl (ltn rfl) rfl rfl (Nat.le_of_ble_eq_true rfl) (by decide) (fun fq26 hq27 => ?_)
          refine v_I (I2 := (scr (mputH (svd I) (hrN (I 66) (I 67) (I 68) (I 70) (I 73) pp (msum I) (mfade I) (lessM 2000000000) (mgetH I) P22)) fq26 hq27)) rfl ?_
          refine v_iload_n dX9_on_73 rfl 2 rfl ?_
          refine v_bipush (v := 20) dX9_on_74 (by decide) ?_
          refine v_icmp_geN (a := (tn wz)) (b := 20) (tgt := 91) dX9_on_76 (by decide) hkn rfl (by omega) (by omega) (fun h28 => ?_) (fun h => by exfalso; omega)
          refine v_iload_n dX9_on_91 rfl 2 rfl ?_
          refine v_bipush (v := 30) dX9_on_92 (by decide) ?_
          refine v_icmp_geN (a := (tn wz)) (b := 30) (tgt := 109) dX9_on_94 (by decide) hkn rfl (by omega) (by omega) (fun h29 => ?_) (fun h => by exfalso; omega)
          refine v_aload_n dX9_on_109 rfl 0 rfl ?_
          refine v_get (v := .ref (g.1 + 72)) fa_X9_35 dX9_on_110 rfl (by decide) (ltn rfl) rfl ?_
          refine v_iload_n dX9_on_113 rfl 2 rfl ?_
          refine v_bipush (v := 30) dX9_on_114 (by decide) ?_
          refine v_isub dX9_on_116 ?_
          refine v_is (nx_sub (a := (tn wz)) (b := 30) hkn rfl (by omega)) ?_
          refine v_iaload (len := 6) (j := ((tn wz) - 30)) dX9_on_117 rfl (ltn rfl) rfl (by decide) rfl (by omega) ?_
          refine v_is (y := (hrN (I 66) (I 67) (I 68) (I 70) (I 73) pp (msum I) (mfade I) (lessM 2000000000) (mgetH I) P22).1.2.2 ((tn wz) - 30)) (by rfl) ?_
          refine v_istore_n (lv2 := [(3, .int ((hrN (I 66) (I 67) (I 68) (I 70) (I 73) pp (msum I) (mfade I) (lessM 2000000000) (mgetH I) P22).1.2.2 ((tn wz) - 30))), (0, .ref (g.1 + 65)), (1, .int (nI P22)), (2, .int wz)]) dX9_on_118 rfl (by decide) rfl ?_
          refine v_aload_n dX9_on_119 rfl 1 rfl ?_
          refine v_callVv (As := []) (rest := []) lk_X9_362 (c_X9_putBack (I := (scr (mputH (svd I) (hrN (I 66) (I 67) (I 68) (I 70) (I 73) pp (msum I) (mfade I) (lessM 2000000000) (mgetH I) P22)) fq26 hq27))) dX9_on_120 rfl (ltn rfl) rfl rfl (Nat.le_of_ble_eq_true rfl) (by decide) ?_
          refine v_I (pb_trial hM _ _ _ (hrN_off hpp _)) ?_
          refine v_iload_n dX9_on_123 rfl 0 rfl ?_
          exact v_iret hr dX9_on_124 (⟨congrArg (fun z => some (Value.int z)) (by first | rfl | (simp only [bq, ifc_T, ifc_F, inr_m1, and_true, true_and, and_false, false_and, or_true, true_or, or_false, false_or, not_true_eq_false, not_false_eq_true, and_self, or_self, h1, h10, h20, honc, h21, t24, u25, l23, h28, h29, onW]; done) | (simp [bq, ifc_T, ifc_F, inr_m1, h1, h10, h20, honc, h21, t24, u25, l23, h28, h29, onW]; done) | ((try simp only [bq, onW]); repeat (first | rfl | (refine eq_t ?_ ?_; focus (first | omega | assumption | (simp [inr_m1, h1, h10, h20, honc, h21, t24, u25, l23, h28, h29]; done) | (simp [inr_m1, h1, h10, h20, honc, h21, t24, u25, l23, h28, h29]; omega) | (simp only [u25]; omega) | (clear hr; (try clear hkn); simp_all; done))) | (refine eq_f ?_ ?_; focus (first | omega | assumption | (simp [inr_m1, h1, h10, h20, honc, h21, t24, u25, l23, h28, h29]; done) | (simp [inr_m1, h1, h10, h20, honc, h21, t24, u25, l23, h28, h29]; omega) | (simp only [u25]; omega) | (clear hr; (try clear hkn); simp_all; done))) | (simp only [t24]; done) | (exfalso; clear hr; (try clear hkn); simp_all; done)))), ⟨_, _, rfl⟩, rfl, rfl, rfl, rfl⟩)
        · -- not inr nz 41
          refine v_bipush (v := (-2)) dX9_on_61 (by decide) ?_
          exact v_iret hr dX9_on_63 (⟨congrArg (fun z => some (Value.int z)) (by first | rfl | (simp only [bq, ifc_T, ifc_F, inr_m1, and_true, true_and, and_false, false_and, or_true, true_or, or_false, false_or, not_true_eq_false, not_false_eq_true, and_self, or_self, h1, h10, h20, honc, h21, onW]; done) | (simp [bq, ifc_T, ifc_F, inr_m1, h1, h10, h20, honc, h21, onW]; done) | ((try simp only [bq, onW]); repeat (first | rfl | (refine eq_t ?_ ?_; focus (first | omega | assumption | (simp [inr_m1, h1, h10, h20, honc, h21]; done) | (simp [inr_m1, h1, h10, h20, honc, h21]; omega) | (clear hr; (try clear hkn); simp_all; done))) | (refine eq_f ?_ ?_; focus (first | omega | assumption | (simp [inr_m1, h1, h10, h20, honc, h21]; done) | (simp [inr_m1, h1, h10, h20, honc, h21]; omega) | (clear hr; (try clear hkn); simp_all; done))) | (exfalso; clear hr; (try clear hkn); simp_all; done)))), ⟨_, _, sck_self I⟩, rfl, rfl, rfl, rfl⟩)
      · -- not (30 ≤ wz ∧ wz ≤ nI (29 + pp))
        refine v_iconst (v := (-1)) dX9_on_51 (by decide) ?_
        exact v_iret hr dX9_on_52 (⟨congrArg (fun z => some (Value.int z)) (by first | rfl | (simp only [bq, ifc_T, ifc_F, inr_m1, and_true, true_and, and_false, false_and, or_true, true_or, or_false, false_or, not_true_eq_false, not_false_eq_true, and_self, or_self, h1, h10, h20, onC]; done) | (simp [bq, ifc_T, ifc_F, inr_m1, h1, h10, h20, onC]; done) | ((try simp only [bq, onC]); repeat (first | rfl | (refine eq_t ?_ ?_; focus (first | omega | assumption | (simp [inr_m1, h1, h10, h20]; done) | (simp [inr_m1, h1, h10, h20]; omega) | (clear hr; (try clear hkn); simp_all; done))) | (refine eq_f ?_ ?_; focus (first | omega | assumption | (simp [inr_m1, h1, h10, h20]; done) | (simp [inr_m1, h1, h10, h20]; omega) | (clear hr; (try clear hkn); simp_all; done))) | (exfalso; clear hr; (try clear hkn); simp_all; done)))), ⟨_, _, sck_self I⟩, rfl, rfl, rfl, rfl⟩)
