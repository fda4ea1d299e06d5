noncomputable def lentV (I : Ty) (pp p : Nat) : Int32 := ifc (I 70 p < 0) (-5) (lentF (I 71) (refv (mwel I pp p) 16) pp p (tn (I 69 p)) (tn (I 70 p)) (2 ^ pp))
noncomputable def ofV (I : Ty) (pp sn Q : Nat) (wz : Int32) : Int32 := ifc (wz = 0) (I 67 Q) (ifc (wz = 1) (I 68 Q) (ifc (wz = 2) (I 69 Q) (ifc (wz = 3) (I 70 Q) (ifc (wz = 4) (I 71 Q) (ifc (wz = 5) (I 72 Q) (ifc (wz = 6) (ifc (arvN (I 66) I pp Q < 41) (nI (arvN (I 66) I pp Q)) (-5)) (ifc (wz = 7) (refv (mwel I pp Q) 16) (ifc (wz = 8) (lentV I pp Q) (ifc (wz = 9) (keyF I pp Q 16).1 (ifc (wz = 10) (fromF I pp sn Q 16) (-1)))))))))))
set_option maxRecDepth 100000 in
set_option maxHeartbeats 2000000 in
theorem c_X9_of {g : Gl} {I : Ty} {L : TL} {na nt ni m : Nat} {nl : Nat → Nat} (pz : Int32) (wz : Int32) (pp : Nat) (hpp : pp ≤ 6) (hpe : I 65 0 = nI pp) (hN : mOK I) (hS : okS (mget I)) (hG : okG (I 70)) (hM : I 65 29 = 9999) (sn : Nat) (hsn : sn ≤ 5) (hse : I 65 35 = nI sn) (hsw : ∀ k, k < sn → ∃ x, x < 6 ∧ I 89 k = nI x) (hst : ∀ k, k < sn → ∃ x, x ≤ 12 ∧ I 90 k = nI x) : Ct g yX9_of cX9_of 3 (some .int) 9 0 0 [.ref (g.1 + 65), .int pz, .int wz] I L (RT na nt ni) (NT nl) (NB + m) (Pk (some (.int (ifc (inr pz pp) (ofV I pp sn (tn pz) wz) (-1)))) (I) L (RT na nt ni) (NT nl) (NB + m)) := by
  refine ct_of (by decide +kernel) (Nat.le_of_ble_eq_true rfl) (fun F hnm hr => ?_)
  clear hnm
  show V g F cX9_of RX9 3 9 0 [(0, .ref (g.1 + 65)), (1, .int pz), (2, .int wz)] [] I L (RT na nt ni) (NT nl) (NB + m) 0 0
  refine v_aload_n dX9_of_0 rfl 0 rfl ?_
  refine v_iload_n dX9_of_1 rfl 1 rfl ?_
  refine v_callVi (As := [.int pz]) (rest := []) lk_X9_245 (c_X9_isOne pz pp hpp hpe) dX9_of_2 rfl (ltn rfl) rfl rfl (Nat.le_of_ble_eq_true rfl) (by decide) ?_
  refine v_ifb_ne (tgt := 10) dX9_of_5 (by decide) (fun h1 => ?_) (fun h1 => ?_)
  · -- inr pz pp
    obtain ⟨P2, rfl, l3, t4, u5⟩ := inr_ex h1 (by omega)
    refine v_iload_n dX9_of_10 rfl 2 rfl ?_
    by_cases k6_0 : wz = 0
    · refine v_is k6_0 ?_
      refine v_tabIn (off := 57) (tgt := 68) dX9_of_11 (by decide) (by decide) (by decide) (by decide) ?_
      refine v_aload_n dX9_of_68 rfl 0 rfl ?_
      refine v_get (v := .ref (g.1 + 67)) fa_X9_20 dX9_of_69 rfl (by decide) (ltn rfl) rfl ?_
      refine v_iload_n dX9_of_72 rfl 1 rfl ?_
      refine v_iaload (len := 6) (j := P2) dX9_of_73 rfl (ltn rfl) rfl (by decide) rfl (by omega) ?_
      exact v_iret hr dX9_of_74 (⟨congrArg (fun z => some (Value.int z)) (by first | rfl | (simp only [bq, ifc_T, ifc_F, inr_m1, and_true, true_and, and_false, false_and, or_true, true_or, or_false, false_or, not_true_eq_false, not_false_eq_true, and_self, or_self, h1, t4, u5, l3, k6_0, ofV, lentV]; done) | (simp [bq, ifc_T, ifc_F, inr_m1, h1, t4, u5, l3, k6_0, ofV, lentV]; done) | ((try simp only [bq, ofV, lentV]); repeat (first | rfl | (refine eq_t ?_ ?_; focus (first | omega | assumption | (simp [inr_m1, h1, t4, u5, l3, k6_0]; done) | (simp [inr_m1, h1, t4, u5, l3, k6_0]; omega) | (simp only [u5]; omega) | (clear hr; (try clear hkn); simp_all; done))) | (refine eq_f ?_ ?_; focus (first | omega | assumption | (simp [inr_m1, h1, t4, u5, l3, k6_0]; done) | (simp [inr_m1, h1, t4, u5, l3, k6_0]; omega) | (simp only [u5]; omega) | (clear hr; (try clear hkn); simp_all; done))) | (simp only [t4]; done) | (exfalso; clear hr; (try clear hkn); simp_all; done)))), ⟨_, _, sck_self I⟩, rfl, rfl, rfl, rfl⟩)
    by_cases k6_1 : wz = 1
    · refine v_is k6_1 ?_
      refine v_tabIn (off := 64) (tgt := 75) dX9_of_11 (by decide) (by decide) (by decide) (by decide) ?_
      refine v_aload_n dX9_of_75 rfl 0 rfl ?_
      refine v_get (v := .ref (g.1 + 68)) fa_X9_23 dX9_of_76 rfl (by decide) (ltn rfl) rfl ?_
      refine v_iload_n dX9_of_79 rfl 1 rfl ?_
      refine v_iaload (len := 6) (j := P2) dX9_of_80 rfl (ltn rfl) rfl (by decide) rfl (by omega) ?_
      exact v_iret hr dX9_of_81 (⟨congrArg (fun z => some (Value.int z)) (by first | rfl | (simp only [bq, ifc_T, ifc_F, inr_m1, and_true, true_and, and_false, false_and, or_true, true_or, or_false, false_or, not_true_eq_false, not_false_eq_true, and_self, or_self, h1, t4, u5, l3, k6_1, ofV, lentV]; done) | (simp [bq, ifc_T, ifc_F, inr_m1, h1, t4, u5, l3, k6_1, ofV, lentV]; done) | ((try simp only [bq, ofV, lentV]); repeat (first | rfl | (refine eq_t ?_ ?_; focus (first | omega | assumption | (simp [inr_m1, h1, t4, u5, l3, k6_1]; done) | (simp [inr_m1, h1, t4, u5, l3, k6_1]; omega) | (simp only [u5]; omega) | (clear hr; (try clear hkn); simp_all; done))) | (refine eq_f ?_ ?_; focus (first | omega | assumption | (simp [inr_m1, h1, t4, u5, l3, k6_1]; done) | (simp [inr_m1, h1, t4, u5, l3, k6_1]; omega) | (simp only [u5]; omega) | (clear hr; (try clear hkn); simp_all; done))) | (simp only [t4]; done) | (exfalso; clear hr; (try clear hkn); simp_all; done)))), ⟨_, _, sck_self I⟩, rfl, rfl, rfl, rfl⟩)
    by_cases k6_2 : wz = 2
    · refine v_is k6_2 ?_
      refine v_tabIn (off := 71) (tgt := 82) dX9_of_11 (by decide) (by decide) (by decide) (by decide) ?_
      refine v_aload_n dX9_of_82 rfl 0 rfl ?_
      refine v_get (v := .ref (g.1 + 69)) fa_X9_26 dX9_of_83 rfl (by decide) (ltn rfl) rfl ?_
      refine v_iload_n dX9_of_86 rfl 1 rfl ?_
      refine v_iaload (len := 6) (j := P2) dX9_of_87 rfl (ltn rfl) rfl (by decide) rfl (by omega) ?_
      exact v_iret hr dX9_of_88 (⟨congrArg (fun z => some (Value.int z)) (by first | rfl | (simp only [bq, ifc_T, ifc_F, inr_m1, and_true, true_and, and_false, false_and, or_true, true_or, or_false, false_or, not_true_eq_false, not_false_eq_true, and_self, or_self, h1, t4, u5, l3, k6_2, ofV, lentV]; done) | (simp [bq, ifc_T, ifc_F, inr_m1, h1, t4, u5, l3, k6_2, ofV, lentV]; done) | ((try simp only [bq, ofV, lentV]); repeat (first | rfl | (refine eq_t ?_ ?_; focus (first | omega | assumption | (simp [inr_m1, h1, t4, u5, l3, k6_2]; done) | (simp [inr_m1, h1, t4, u5, l3, k6_2]; omega) | (simp only [u5]; omega) | (clear hr; (try clear hkn); simp_all; done))) | (refine eq_f ?_ ?_; focus (first | omega | assumption | (simp [inr_m1, h1, t4, u5, l3, k6_2]; done) | (simp [inr_m1, h1, t4, u5, l3, k6_2]; omega) | (simp only [u5]; omega) | (clear hr; (try clear hkn); simp_all; done))) | (simp only [t4]; done) | (exfalso; clear hr; (try clear hkn); simp_all; done)))), ⟨_, _, sck_self I⟩, rfl, rfl, rfl, rfl⟩)
    by_cases k6_3 : wz = 3
    · refine v_is k6_3 ?_
      refine v_tabIn (off := 78) (tgt := 89) dX9_of_11 (by decide) (by decide) (by decide) (by decide) ?_
      refine v_aload_n dX9_of_89 rfl 0 rfl ?_
      refine v_get (v := .ref (g.1 + 70)) fa_X9_29 dX9_of_90 rfl (by decide) (ltn rfl) rfl ?_
      refine v_iload_n dX9_of_93 rfl 1 rfl ?_
      refine v_iaload (len := 6) (j := P2) dX9_of_94 rfl (ltn rfl) rfl (by decide) rfl (by omega) ?_
      exact v_iret hr dX9_of_95 (⟨congrArg (fun z => some (Value.int z)) (by first | rfl | (simp only [bq, ifc_T, ifc_F, inr_m1, and_true, true_and, and_false, false_and, or_true, true_or, or_false, false_or, not_true_eq_false, not_false_eq_true, and_self, or_self, h1, t4, u5, l3, k6_3, ofV, lentV]; done) | (simp [bq, ifc_T, ifc_F, inr_m1, h1, t4, u5, l3, k6_3, ofV, lentV]; done) | ((try simp only [bq, ofV, lentV]); repeat (first | rfl | (refine eq_t ?_ ?_; focus (first | omega | assumption | (simp [inr_m1, h1, t4, u5, l3, k6_3]; done) | (simp [inr_m1, h1, t4, u5, l3, k6_3]; omega) | (simp only [u5]; omega) | (clear hr; (try clear hkn); simp_all; done))) | (refine eq_f ?_ ?_; focus (first | omega | assumption | (simp [inr_m1, h1, t4, u5, l3, k6_3]; done) | (simp [inr_m1, h1, t4, u5, l3, k6_3]; omega) | (simp only [u5]; omega) | (clear hr; (try clear hkn); simp_all; done))) | (simp only [t4]; done) | (exfalso; clear hr; (try clear hkn); simp_all; done)))), ⟨_, _, sck_self I⟩, rfl, rfl, rfl, rfl⟩)
    by_cases k6_4 : wz = 4
    · refine v_is k6_4 ?_
      refine v_tabIn (off := 85) (tgt := 96) dX9_of_11 (by decide) (by decide) (by decide) (by decide) ?_
      refine v_aload_n dX9_of_96 rfl 0 rfl ?_
      refine v_get (v := .ref (g.1 + 71)) fa_X9_32 dX9_of_97 rfl (by decide) (ltn rfl) rfl ?_
      refine v_iload_n dX9_of_100 rfl 1 rfl ?_
      refine v_iaload (len := 6) (j := P2) dX9_of_101 rfl (ltn rfl) rfl (by decide) rfl (by omega) ?_
      exact v_iret hr dX9_of_102 (⟨congrArg (fun z => some (Value.int z)) (by first | rfl | (simp only [bq, ifc_T, ifc_F, inr_m1, and_true, true_and, and_false, false_and, or_true, true_or, or_false, false_or, not_true_eq_false, not_false_eq_true, and_self, or_self, h1, t4, u5, l3, k6_4, ofV, lentV]; done) | (simp [bq, ifc_T, ifc_F, inr_m1, h1, t4, u5, l3, k6_4, ofV, lentV]; done) | ((try simp only [bq, ofV, lentV]); repeat (first | rfl | (refine eq_t ?_ ?_; focus (first | omega | assumption | (simp [inr_m1, h1, t4, u5, l3, k6_4]; done) | (simp [inr_m1, h1, t4, u5, l3, k6_4]; omega) | (simp only [u5]; omega) | (clear hr; (try clear hkn); simp_all; done))) | (refine eq_f ?_ ?_; focus (first | omega | assumption | (simp [inr_m1, h1, t4, u5, l3, k6_4]; done) | (simp [inr_m1, h1, t4, u5, l3, k6_4]; omega) | (simp only [u5]; omega) | (clear hr; (try clear hkn); simp_all; done))) | (simp only [t4]; done) | (exfalso; clear hr; (try clear hkn); simp_all; done)))), ⟨_, _, sck_self I⟩, rfl, rfl, rfl, rfl⟩)
    by_cases k6_5 : wz = 5
    · refine v_is k6_5 ?_
      refine v_tabIn (off := 92) (tgt := 103) dX9_of_11 (by decide) (by decide) (by decide) (by decide) ?_
      refine v_aload_n dX9_of_103 rfl 0 rfl ?_
      refine v_get (v := .ref (g.1 + 72)) fa_X9_35 dX9_of_104 rfl (by decide) (ltn rfl) rfl ?_
      refine v_iload_n dX9_of_107 rfl 1 rfl ?_
      refine v_iaload (len := 6) (j := P2) dX9_of_108 rfl (ltn rfl) rfl (by decide) rfl (by omega) ?_
      exact v_iret hr dX9_of_109 (⟨congrArg (fun z => some (Value.int z)) (by first | rfl | (simp only [bq, ifc_T, ifc_F, inr_m1, and_true, true_and, and_false, false_and, or_true, true_or, or_false, false_or, not_true_eq_false, not_false_eq_true, and_self, or_self, h1, t4, u5, l3, k6_5, ofV, lentV]; done) | (simp [bq, ifc_T, ifc_F, inr_m1, h1, t4, u5, l3, k6_5, ofV, lentV]; done) | ((try simp only [bq, ofV, lentV]); repeat (first | rfl | (refine eq_t ?_ ?_; focus (first | omega | assumption | (simp [inr_m1, h1, t4, u5, l3, k6_5]; done) | (simp [inr_m1, h1, t4, u5, l3, k6_5]; omega) | (simp only [u5]; omega) | (clear hr; (try clear hkn); simp_all; done))) | (refine eq_f ?_ ?_; focus (first | omega | assumption | (simp [inr_m1, h1, t4, u5, l3, k6_5]; done) | (simp [inr_m1, h1, t4, u5, l3, k6_5]; omega) | (simp only [u5]; omega) | (clear hr; (try clear hkn); simp_all; done))) | (simp only [t4]; done) | (exfalso; clear hr; (try clear hkn); simp_all; done)))), ⟨_, _, sck_self I⟩, rfl, rfl, rfl, rfl⟩)
    by_cases k6_6 : wz = 6
    · refine v_is k6_6 ?_
      refine v_tabIn (off := 99) (tgt := 110) dX9_of_11 (by decide) (by decide) (by decide) (by decide) ?_
      refine v_aload_n dX9_of_110 rfl 0 rfl ?_
      refine v_iload_n dX9_of_111 rfl 1 rfl ?_
      refine v_callVki (As := [.int (nI P2)]) (rest := []) lk_X9_380 (c_X9_there P2 pp hpp hpe (by omega) hN hS hG hM) dX9_of_112 rfl (ltn rfl) rfl rfl (Nat.le_of_ble_eq_true rfl) (by decide) (fun fq7 hq8 => ?_)
      exact v_iret hr dX9_of_115 (⟨congrArg (fun z => some (Value.int z)) (by first | rfl | (simp only [bq, ifc_T, ifc_F, inr_m1, and_true, true_and, and_false, false_and, or_true, true_or, or_false, false_or, not_true_eq_false, not_false_eq_true, and_self, or_self, h1, t4, u5, l3, k6_6, ofV, lentV]; done) | (simp [bq, ifc_T, ifc_F, inr_m1, h1, t4, u5, l3, k6_6, ofV, lentV]; done) | ((try simp only [bq, ofV, lentV]); repeat (first | rfl | (refine eq_t ?_ ?_; focus (first | omega | assumption | (simp [inr_m1, h1, t4, u5, l3, k6_6]; done) | (simp [inr_m1, h1, t4, u5, l3, k6_6]; omega) | (simp only [u5]; omega) | (clear hr; (try clear hkn); simp_all; done))) | (refine eq_f ?_ ?_; focus (first | omega | assumption | (simp [inr_m1, h1, t4, u5, l3, k6_6]; done) | (simp [inr_m1, h1, t4, u5, l3, k6_6]; omega) | (simp only [u5]; omega) | (clear hr; (try clear hkn); simp_all; done))) | (simp only [t4]; done) | (exfalso; clear hr; (try clear hkn); simp_all; done)))), ⟨_, _, rfl⟩, rfl, rfl, rfl, rfl⟩)
    by_cases k6_7 : wz = 7
    · refine v_is k6_7 ?_
      refine v_tabIn (off := 105) (tgt := 116) dX9_of_11 (by decide) (by decide) (by decide) (by decide) ?_
      refine v_aload_n dX9_of_116 rfl 0 rfl ?_
      refine v_iload_n dX9_of_117 rfl 1 rfl ?_
      refine v_callVqi (As := [.int (nI P2)]) (rest := []) lk_X9_340 (c_X9_refusals P2 pp hpp hpe (by omega) hN) dX9_of_118 rfl (ltn rfl) rfl rfl (Nat.le_of_ble_eq_true rfl) (by decide) (fun fq9 hq10 => ?_)
      exact v_iret hr dX9_of_121 (⟨congrArg (fun z => some (Value.int z)) (by first | rfl | (simp only [bq, ifc_T, ifc_F, inr_m1, and_true, true_and, and_false, false_and, or_true, true_or, or_false, false_or, not_true_eq_false, not_false_eq_true, and_self, or_self, h1, t4, u5, l3, k6_7, ofV, lentV]; done) | (simp [bq, ifc_T, ifc_F, inr_m1, h1, t4, u5, l3, k6_7, ofV, lentV]; done) | ((try simp only [bq, ofV, lentV]); repeat (first | rfl | (refine eq_t ?_ ?_; focus (first | omega | assumption | (simp [inr_m1, h1, t4, u5, l3, k6_7]; done) | (simp [inr_m1, h1, t4, u5, l3, k6_7]; omega) | (simp only [u5]; omega) | (clear hr; (try clear hkn); simp_all; done))) | (refine eq_f ?_ ?_; focus (first | omega | assumption | (simp [inr_m1, h1, t4, u5, l3, k6_7]; done) | (simp [inr_m1, h1, t4, u5, l3, k6_7]; omega) | (simp only [u5]; omega) | (clear hr; (try clear hkn); simp_all; done))) | (simp only [t4]; done) | (exfalso; clear hr; (try clear hkn); simp_all; done)))), ⟨_, _, scr_sck _ _ _⟩, rfl, rfl, rfl, rfl⟩)
    by_cases k6_8 : wz = 8
    · refine v_is k6_8 ?_
      refine v_tabIn (off := 111) (tgt := 122) dX9_of_11 (by decide) (by decide) (by decide) (by decide) ?_
      refine v_aload_n dX9_of_122 rfl 0 rfl ?_
      refine v_iload_n dX9_of_123 rfl 1 rfl ?_
      refine v_callVqi (As := [.int (nI P2)]) (rest := []) lk_X9_383 (c_X9_lent P2 pp hpp hpe (by omega) hN hS hG) dX9_of_124 rfl (ltn rfl) rfl rfl (Nat.le_of_ble_eq_true rfl) (by decide) (fun fq11 hq12 => ?_)
      exact v_iret hr dX9_of_127 (⟨congrArg (fun z => some (Value.int z)) (by first | rfl | (simp only [bq, ifc_T, ifc_F, inr_m1, and_true, true_and, and_false, false_and, or_true, true_or, or_false, false_or, not_true_eq_false, not_false_eq_true, and_self, or_self, h1, t4, u5, l3, k6_8, ofV, lentV]; done) | (simp [bq, ifc_T, ifc_F, inr_m1, h1, t4, u5, l3, k6_8, ofV, lentV]; done) | ((try simp only [bq, ofV, lentV]); repeat (first | rfl | (refine eq_t ?_ ?_; focus (first | omega | assumption | (simp [inr_m1, h1, t4, u5, l3, k6_8]; done) | (simp [inr_m1, h1, t4, u5, l3, k6_8]; omega) | (simp only [u5]; omega) | (clear hr; (try clear hkn); simp_all; done))) | (refine eq_f ?_ ?_; focus (first | omega | assumption | (simp [inr_m1, h1, t4, u5, l3, k6_8]; done) | (simp [inr_m1, h1, t4, u5, l3, k6_8]; omega) | (simp only [u5]; omega) | (clear hr; (try clear hkn); simp_all; done))) | (simp only [t4]; done) | (exfalso; clear hr; (try clear hkn); simp_all; done)))), ⟨_, _, scr_sck _ _ _⟩, rfl, rfl, rfl, rfl⟩)
    by_cases k6_9 : wz = 9
    · refine v_is k6_9 ?_
      refine v_tabIn (off := 117) (tgt := 128) dX9_of_11 (by decide) (by decide) (by decide) (by decide) ?_
      refine v_aload_n dX9_of_128 rfl 0 rfl ?_
      refine v_iload_n dX9_of_129 rfl 1 rfl ?_
      refine v_callVki (As := [.int (nI P2)]) (rest := []) lk_X9_386 (c_X9_key P2 pp hpp hpe (by omega) hN hS hG hM) dX9_of_130 rfl (ltn rfl) rfl rfl (Nat.le_of_ble_eq_true rfl) (by decide) (fun fq13 hq14 => ?_)
      exact v_iret hr dX9_of_133 (⟨congrArg (fun z => some (Value.int z)) (by first | rfl | (simp only [bq, ifc_T, ifc_F, inr_m1, and_true, true_and, and_false, false_and, or_true, true_or, or_false, false_or, not_true_eq_false, not_false_eq_true, and_self, or_self, h1, t4, u5, l3, k6_9, ofV, lentV]; done) | (simp [bq, ifc_T, ifc_F, inr_m1, h1, t4, u5, l3, k6_9, ofV, lentV]; done) | ((try simp only [bq, ofV, lentV]); repeat (first | rfl | (refine eq_t ?_ ?_; focus (first | omega | assumption | (simp [inr_m1, h1, t4, u5, l3, k6_9]; done) | (simp [inr_m1, h1, t4, u5, l3, k6_9]; omega) | (simp only [u5]; omega) | (clear hr; (try clear hkn); simp_all; done))) | (refine eq_f ?_ ?_; focus (first | omega | assumption | (simp [inr_m1, h1, t4, u5, l3, k6_9]; done) | (simp [inr_m1, h1, t4, u5, l3, k6_9]; omega) | (simp only [u5]; omega) | (clear hr; (try clear hkn); simp_all; done))) | (simp only [t4]; done) | (exfalso; clear hr; (try clear hkn); simp_all; done)))), ⟨_, _, rfl⟩, rfl, rfl, rfl, rfl⟩)
    by_cases k6_10 : wz = 10
    · refine v_is k6_10 ?_
      refine v_tabIn (off := 123) (tgt := 134) dX9_of_11 (by decide) (by decide) (by decide) (by decide) ?_
      refine v_aload_n dX9_of_134 rfl 0 rfl ?_
      refine v_iload_n dX9_of_135 rfl 1 rfl ?_
      refine v_callVki (As := [.int (nI P2)]) (rest := []) lk_X9_389 (c_X9_fromWhere P2 (by omega) pp hpp hpe hN hS hG hM sn hsn hse hsw hst) dX9_of_136 rfl (ltn rfl) rfl rfl (Nat.le_of_ble_eq_true rfl) (by decide) (fun fq15 hq16 => ?_)
      exact v_iret hr dX9_of_139 (⟨congrArg (fun z => some (Value.int z)) (by first | rfl | (simp only [bq, ifc_T, ifc_F, inr_m1, and_true, true_and, and_false, false_and, or_true, true_or, or_false, false_or, not_true_eq_false, not_false_eq_true, and_self, or_self, h1, t4, u5, l3, k6_10, ofV, lentV]; done) | (simp [bq, ifc_T, ifc_F, inr_m1, h1, t4, u5, l3, k6_10, ofV, lentV]; done) | ((try simp only [bq, ofV, lentV]); repeat (first | rfl | (refine eq_t ?_ ?_; focus (first | omega | assumption | (simp [inr_m1, h1, t4, u5, l3, k6_10]; done) | (simp [inr_m1, h1, t4, u5, l3, k6_10]; omega) | (simp only [u5]; omega) | (clear hr; (try clear hkn); simp_all; done))) | (refine eq_f ?_ ?_; focus (first | omega | assumption | (simp [inr_m1, h1, t4, u5, l3, k6_10]; done) | (simp [inr_m1, h1, t4, u5, l3, k6_10]; omega) | (simp only [u5]; omega) | (clear hr; (try clear hkn); simp_all; done))) | (simp only [t4]; done) | (exfalso; clear hr; (try clear hkn); simp_all; done)))), ⟨_, _, rfl⟩, rfl, rfl, rfl, rfl⟩)
    have t17 : wz.toInt < 0 ∨ 10 < wz.toInt := by
      rcases sw_out wz (0) (10) with h | h | ⟨ha, hb⟩
      · exact Or.inl h
      · exact Or.inr h
      · exfalso
        have hz : ∀ z : Int, 0 ≤ z → z ≤ 10 → z = 0 ∨ z = 1 ∨ z = 2 ∨ z = 3 ∨ z = 4 ∨ z = 5 ∨ z = 6 ∨ z = 7 ∨ z = 8 ∨ z = 9 ∨ z = 10 := by omega
        rcases hz _ ha hb with e | e | e | e | e | e | e | e | e | e | e
        · exact absurd (sw_eq (k := 0) e (by decide)) k6_0
        · exact absurd (sw_eq (k := 1) e (by decide)) k6_1
        · exact absurd (sw_eq (k := 2) e (by decide)) k6_2
        · exact absurd (sw_eq (k := 3) e (by decide)) k6_3
        · exact absurd (sw_eq (k := 4) e (by decide)) k6_4
        · exact absurd (sw_eq (k := 5) e (by decide)) k6_5
        · exact absurd (sw_eq (k := 6) e (by decide)) k6_6
        · exact absurd (sw_eq (k := 7) e (by decide)) k6_7
        · exact absurd (sw_eq (k := 8) e (by decide)) k6_8
        · exact absurd (sw_eq (k := 9) e (by decide)) k6_9
        · exact absurd (sw_eq (k := 10) e (by decide)) k6_10
    refine v_tabOut (tgt := 140) dX9_of_11 t17 (by decide) ?_
    refine v_iconst (v := (-1)) dX9_of_140 (by decide) ?_
    exact v_iret hr dX9_of_141 (⟨congrArg (fun z => some (Value.int z)) (by first | rfl | (simp only [bq, ifc_T, ifc_F, inr_m1, and_true, true_and, and_false, false_and, or_true, true_or, or_false, false_or, not_true_eq_false, not_false_eq_true, and_self, or_self, h1, t4, u5, l3, k6_0, k6_1, k6_2, k6_3, k6_4, k6_5, k6_6, k6_7, k6_8, k6_9, k6_10, ofV, lentV]; done) | (simp [bq, ifc_T, ifc_F, inr_m1, h1, t4, u5, l3, k6_0, k6_1, k6_2, k6_3, k6_4, k6_5, k6_6, k6_7, k6_8, k6_9, k6_10, ofV, lentV]; done) | ((try simp only [bq, ofV, lentV]); repeat (first | rfl | (refine eq_t ?_ ?_; focus (first | omega | assumption | (simp [inr_m1, h1, t4, u5, l3, k6_0, k6_1, k6_2, k6_3, k6_4, k6_5, k6_6, k6_7, k6_8, k6_9, k6_10]; done) | (simp [inr_m1, h1, t4, u5, l3, k6_0, k6_1, k6_2, k6_3, k6_4, k6_5, k6_6, k6_7, k6_8, k6_9, k6_10]; omega) | (simp only [u5]; omega) | (clear hr; (try clear hkn); simp_all; done))) | (refine eq_f ?_ ?_; focus (first | omega | assumption | (simp [inr_m1, h1, t4, u5, l3, k6_0, k6_1, k6_2, k6_3, k6_4, k6_5, k6_6, k6_7, k6_8, k6_9, k6_10]; done) | (simp [inr_m1, h1, t4, u5, l3, k6_0, k6_1, k6_2, k6_3, k6_4, k6_5, k6_6, k6_7, k6_8, k6_9, k6_10]; omega) | (simp only [u5]; omega) | (clear hr; (try clear hkn); simp_all; done))) | (simp only [t4]; done) | (exfalso; clear hr; (try clear hkn); simp_all; done)))), ⟨_, _, sck_self I⟩, rfl, rfl, rfl, rfl⟩)
  · -- not inr pz pp
    refine v_iconst (v := (-1)) dX9_of_8 (by decide) ?_
    exact v_iret hr dX9_of_9 (⟨congrArg (fun z => some (Value.int z)) (by first | rfl | (simp only [bq, ifc_T, ifc_F, inr_m1, and_true, true_and, and_false, false_and, or_true, true_or, or_false, false_or, not_true_eq_false, not_false_eq_true, and_self, or_self, h1, ofV, lentV]; done) | (simp [bq, ifc_T, ifc_F, inr_m1, h1, ofV, lentV]; done) | ((try simp only [bq, ofV, lentV]); repeat (first | rfl | (refine eq_t ?_ ?_; focus (first | omega | assumption | (simp [inr_m1, h1]; done) | (simp [inr_m1, h1]; omega) | (clear hr; (try clear hkn); simp_all; done))) | (refine eq_f ?_ ?_; focus (first | omega | assumption | (simp [inr_m1, h1]; done) | (simp [inr_m1, h1]; omega) | (clear hr; (try clear hkn); simp_all; done))) | (exfalso; clear hr; (try clear hkn); simp_all; done)))), ⟨_, _, sck_self I⟩, rfl, rfl, rfl, rfl⟩)
set_option maxRecDepth 100000 in
set_option maxHeartbeats 400000 in
theorem c_X9_straight {g : Gl} {I : Ty} {L : TL} {na nt ni m : Nat} {nl : Nat → Nat} (pz : Int32) (cz : Int32) (pp : Nat) (hpp : pp ≤ 6) (hpe : I 65 0 = nI pp) (hN : mOK I) (hS : okS (mget I)) (hG : okG (I 70)) : Ct g yX9_straight cX9_straight 3 (some .int) 5 0 0 [.ref (g.1 + 65), .int pz, .int cz] I L (RT na nt ni) (NT nl) (NB + m) (Pq (some (.int (ifc (inr pz pp ∧ inr cz 16) (lw (refv (mwel I pp (tn pz)) 16) (tn (I 69 (tn pz))) (tn cz)) (-1)))) I L (RT na nt ni) (NT nl) (NB + m)) := by
  refine ct_of (by decide +kernel) (Nat.le_of_ble_eq_true rfl) (fun F hnm hr => ?_)
  clear hnm
  show V g F cX9_straight RX9 3 5 0 [(0, .ref (g.1 + 65)), (1, .int pz), (2, .int cz)] [] I L (RT na nt ni) (NT nl) (NB + m) 0 0
  refine v_aload_n dX9_straight_0 rfl 0 rfl ?_
  refine v_iload_n dX9_straight_1 rfl 1 rfl ?_
  refine v_callVi (As := [.int pz]) (rest := []) lk_X9_245 (c_X9_isOne pz pp hpp hpe) dX9_straight_2 rfl (ltn rfl) rfl rfl (Nat.le_of_ble_eq_true rfl) (by decide) ?_
  refine v_ifb_eq (tgt := 35) dX9_straight_5 (by decide) (fun h1 => ?_) (fun h1 => ?_)
  · -- not inr pz pp
    refine v_iconst (v := (-1)) dX9_straight_35 (by decide) ?_
    exact v_iret hr dX9_straight_36 (⟨congrArg (fun z => some (Value.int z)) (by first | rfl | (simp only [bq, ifc_T, ifc_F, inr_m1, and_true, true_and, and_false, false_and, or_true, true_or, or_false, false_or, not_true_eq_false, not_false_eq_true, and_self, or_self, h1, hes]; done) | (simp [bq, ifc_T, ifc_F, inr_m1, h1, hes]; done) | ((try simp only [bq, hes]); repeat (first | rfl | (refine eq_t ?_ ?_; focus (first | omega | assumption | (simp [inr_m1, h1]; done) | (simp [inr_m1, h1]; omega) | (clear hr; (try clear hkn); simp_all; done))) | (refine eq_f ?_ ?_; focus (first | omega | assumption | (simp [inr_m1, h1]; done) | (simp [inr_m1, h1]; omega) | (clear hr; (try clear hkn); simp_all; done))) | (exfalso; clear hr; (try clear hkn); simp_all; done)))), ⟨_, _, scr_self I⟩, rfl, rfl, rfl, rfl⟩)
  · -- inr pz pp
    obtain ⟨P2, rfl, l3, t4, u5⟩ := inr_ex h1 (by omega)
    refine v_aload_n dX9_straight_8 rfl 0 rfl ?_
    refine v_iload_n dX9_straight_9 rfl 2 rfl ?_
    refine v_callVi (As := [.int cz]) (rest := []) lk_X9_241 (c_X9_isCell cz) dX9_straight_10 rfl (ltn rfl) rfl rfl (Nat.le_of_ble_eq_true rfl) (by decide) ?_
    refine v_ifb_eq (tgt := 35) dX9_straight_13 (by decide) (fun h6 => ?_) (fun h6 => ?_)
    · -- not inr cz 16
      refine v_iconst (v := (-1)) dX9_straight_35 (by decide) ?_
      exact v_iret hr dX9_straight_36 (⟨congrArg (fun z => some (Value.int z)) (by first | rfl | (simp only [bq, ifc_T, ifc_F, inr_m1, and_true, true_and, and_false, false_and, or_true, true_or, or_false, false_or, not_true_eq_false, not_false_eq_true, and_self, or_self, h1, t4, u5, l3, h6, hes]; done) | (simp [bq, ifc_T, ifc_F, inr_m1, h1, t4, u5, l3, h6, hes]; done) | ((try simp only [bq, hes]); repeat (first | rfl | (refine eq_t ?_ ?_; focus (first | omega | assumption | (simp [inr_m1, h1, t4, u5, l3, h6]; done) | (simp [inr_m1, h1, t4, u5, l3, h6]; omega) | (simp only [u5]; omega) | (clear hr; (try clear hkn); simp_all; done))) | (refine eq_f ?_ ?_; focus (first | omega | assumption | (simp [inr_m1, h1, t4, u5, l3, h6]; done) | (simp [inr_m1, h1, t4, u5, l3, h6]; omega) | (simp only [u5]; omega) | (clear hr; (try clear hkn); simp_all; done))) | (simp only [t4]; done) | (exfalso; clear hr; (try clear hkn); simp_all; done)))), ⟨_, _, scr_self I⟩, rfl, rfl, rfl, rfl⟩)
    · -- inr cz 16
      obtain ⟨P7, rfl, l8, t9, u10⟩ := inr_ex h6 (by omega)
      obtain ⟨sz, hsz, hes⟩ := hS P2 (by omega)
      have hes : I 69 P2 = nI sz := hes
      have tsz : tn (nI sz) = sz := tn_nI (by omega)
      refine v_aload_n dX9_straight_16 rfl 0 rfl ?_
      refine v_aload_n dX9_straight_17 rfl 0 rfl ?_
      refine v_iload_n dX9_straight_18 rfl 1 rfl ?_
      refine v_callVqi (As := [.int (nI P2)]) (rest := [.ref (g.1 + 65)]) lk_X9_340 (c_X9_refusals P2 pp hpp hpe (by omega) hN) dX9_straight_19 rfl (ltn rfl) rfl rfl (Nat.le_of_ble_eq_true rfl) (by decide) (fun fq11 hq12 => ?_)
      refine v_aload_n dX9_straight_22 rfl 0 rfl ?_
      refine v_get (v := .ref (g.1 + 69)) fa_X9_26 dX9_straight_23 rfl (by decide) (ltn rfl) rfl ?_
      refine v_iload_n dX9_straight_26 rfl 1 rfl ?_
      refine v_iaload (len := 6) (j := P2) dX9_straight_27 rfl (ltn rfl) rfl (by decide) rfl (by omega) ?_
      refine v_is (y := I 69 P2) (by rfl) ?_
      refine v_is (y := nI sz) hes ?_
      refine v_iload_n dX9_straight_28 rfl 2 rfl ?_
      refine v_callV (As := [.int (refv (mwel I pp P2) 16), .int (nI sz), .int (nI P7)]) (rest := []) lk_X9_334 (c_X9_longWay (I := (scr I fq11 hq12)) (refv (mwel I pp P2) 16) sz P7 (by omega) (by omega)) dX9_straight_29 rfl (ltn rfl) rfl rfl (Nat.le_of_ble_eq_true rfl) (by decide) (Nat.zero_le _) (Nat.zero_le _) (fun v I13 L_ R_ N_ n_ q14 => ?_)
      obtain ⟨rfl, ⟨hq, hrow, rfl⟩, rfl, rfl, rfl, rfl⟩ := q14
      have hD9 : ∀ j, j < 16 → dst (refv (mwel I pp P2) 16) P7 j ≤ 99 := fun j hj => (dst_is (refv (mwel I pp P2) 16) P7 j hj).1
      refine v_I (scr_scr _ _ _ _ _) ?_
      refine v_goto (tgt := 36) dX9_straight_32 (by decide) ?_
      exact v_iret hr dX9_straight_36 (⟨congrArg (fun z => some (Value.int z)) (by first | rfl | (simp only [bq, ifc_T, ifc_F, inr_m1, and_true, true_and, and_false, false_and, or_true, true_or, or_false, false_or, not_true_eq_false, not_false_eq_true, and_self, or_self, h1, t4, u5, l3, h6, t9, u10, l8, tsz, hes]; done) | (simp [bq, ifc_T, ifc_F, inr_m1, h1, t4, u5, l3, h6, t9, u10, l8, tsz, hes]; done) | ((try simp only [bq, hes]); repeat (first | rfl | (refine eq_t ?_ ?_; focus (first | omega | assumption | (simp [inr_m1, h1, t4, u5, l3, h6, t9, u10, l8, tsz]; done) | (simp [inr_m1, h1, t4, u5, l3, h6, t9, u10, l8, tsz]; omega) | (simp only [u5, u10]; omega) | (clear hr; (try clear hkn); simp_all; done))) | (refine eq_f ?_ ?_; focus (first | omega | assumption | (simp [inr_m1, h1, t4, u5, l3, h6, t9, u10, l8, tsz]; done) | (simp [inr_m1, h1, t4, u5, l3, h6, t9, u10, l8, tsz]; omega) | (simp only [u5, u10]; omega) | (clear hr; (try clear hkn); simp_all; done))) | (simp only [t4, t9, tsz]; done) | (exfalso; clear hr; (try clear hkn); simp_all; done)))), ⟨_, _, rfl⟩, rfl, rfl, rfl, rfl⟩)
noncomputable def wayV (st : Int32) (sz gz : Nat) (kz : Int32) : Int32 := ifc (kz < 0) (ifc (lwn st sz gz < 99) (nI (lwn st sz gz)) (-5)) (ifc (lwn st sz gz < 99 ∧ tn kz < lwn st sz gz) (nI (pth (dst st gz) sz (tn kz + 1))) (-5))
set_option maxRecDepth 100000 in
set_option maxHeartbeats 2000000 in
theorem c_X9_way {g : Gl} {I : Ty} {L : TL} {na nt ni m : Nat} {nl : Nat → Nat} (pz : Int32) (cz : Int32) (kz : Int32) (pp : Nat) (hpp : pp ≤ 6) (hpe : I 65 0 = nI pp) (hN : mOK I) (hS : okS (mget I)) (hG : okG (I 70)) : Ct g yX9_way cX9_way 7 (some .int) 4 0 0 [.ref (g.1 + 65), .int pz, .int cz, .int kz] I L (RT na nt ni) (NT nl) (NB + m) (Pq (some (.int (ifc (inr pz pp ∧ inr cz 16 ∧ (-1 ≤ kz ∧ kz ≤ 14)) (wayV (I 71 (tn pz)) (tn (I 69 (tn pz))) (tn cz) kz) (-1)))) I L (RT na nt ni) (NT nl) (NB + m)) := by
  refine ct_of (by decide +kernel) (Nat.le_of_ble_eq_true rfl) (fun F hnm hr => ?_)
  clear hnm
  show V g F cX9_way RX9 7 4 0 [(0, .ref (g.1 + 65)), (1, .int pz), (2, .int cz), (3, .int kz)] [] I L (RT na nt ni) (NT nl) (NB + m) 0 0
  refine v_aload_n dX9_way_0 rfl 0 rfl ?_
  refine v_iload_n dX9_way_1 rfl 1 rfl ?_
  refine v_callVi (As := [.int pz]) (rest := []) lk_X9_245 (c_X9_isOne pz pp hpp hpe) dX9_way_2 rfl (ltn rfl) rfl rfl (Nat.le_of_ble_eq_true rfl) (by decide) ?_
  refine v_ifb_eq (tgt := 27) dX9_way_5 (by decide) (fun h1 => ?_) (fun h1 => ?_)
  · -- not inr pz pp
    refine v_iconst (v := (-1)) dX9_way_27 (by decide) ?_
    exact v_iret hr dX9_way_28 (⟨congrArg (fun z => some (Value.int z)) (by first | rfl | (simp only [bq, ifc_T, ifc_F, inr_m1, and_true, true_and, and_false, false_and, or_true, true_or, or_false, false_or, not_true_eq_false, not_false_eq_true, and_self, or_self, h1, wayV]; done) | (simp [bq, ifc_T, ifc_F, inr_m1, h1, wayV]; done) | ((try simp only [bq, wayV]); repeat (first | rfl | (refine eq_t ?_ ?_; focus (first | omega | assumption | (simp [inr_m1, h1]; done) | (simp [inr_m1, h1]; omega) | (clear hr; (try clear hkn); simp_all; done))) | (refine eq_f ?_ ?_; focus (first | omega | assumption | (simp [inr_m1, h1]; done) | (simp [inr_m1, h1]; omega) | (clear hr; (try clear hkn); simp_all; done))) | (exfalso; clear hr; (try clear hkn); simp_all; done)))), ⟨_, _, scr_self I⟩, rfl, rfl, rfl, rfl⟩)
  · -- inr pz pp
    obtain ⟨P2, rfl, l3, t4, u5⟩ := inr_ex h1 (by omega)
    refine v_aload_n dX9_way_8 rfl 0 rfl ?_
    refine v_iload_n dX9_way_9 rfl 2 rfl ?_
    refine v_callVi (As := [.int cz]) (rest := []) lk_X9_241 (c_X9_isCell cz) dX9_way_10 rfl (ltn rfl) rfl rfl (Nat.le_of_ble_eq_true rfl) (by decide) ?_
    refine v_ifb_eq (tgt := 27) dX9_way_13 (by decide) (fun h6 => ?_) (fun h6 => ?_)
    · -- not inr cz 16
      refine v_iconst (v := (-1)) dX9_way_27 (by decide) ?_
      exact v_iret hr dX9_way_28 (⟨congrArg (fun z => some (Value.int z)) (by first | rfl | (simp only [bq, ifc_T, ifc_F, inr_m1, and_true, true_and, and_false, false_and, or_true, true_or, or_false, false_or, not_true_eq_false, not_false_eq_true, and_self, or_self, h1, t4, u5, l3, h6, wayV]; done) | (simp [bq, ifc_T, ifc_F, inr_m1, h1, t4, u5, l3, h6, wayV]; done) | ((try simp only [bq, wayV]); repeat (first | rfl | (refine eq_t ?_ ?_; focus (first | omega | assumption | (simp [inr_m1, h1, t4, u5, l3, h6]; done) | (simp [inr_m1, h1, t4, u5, l3, h6]; omega) | (simp only [u5]; omega) | (clear hr; (try clear hkn); simp_all; done))) | (refine eq_f ?_ ?_; focus (first | omega | assumption | (simp [inr_m1, h1, t4, u5, l3, h6]; done) | (simp [inr_m1, h1, t4, u5, l3, h6]; omega) | (simp only [u5]; omega) | (clear hr; (try clear hkn); simp_all; done))) | (simp only [t4]; done) | (exfalso; clear hr; (try clear hkn); simp_all; done)))), ⟨_, _, scr_self I⟩, rfl, rfl, rfl, rfl⟩)
    · -- inr cz 16
      obtain ⟨P7, rfl, l8, t9, u10⟩ := inr_ex h6 (by omega)
      refine v_aload_n dX9_way_16 rfl 0 rfl ?_
      refine v_iload_n dX9_way_17 rfl 3 rfl ?_
      refine v_iconst (v := (-1)) dX9_way_18 (by decide) ?_
      refine v_bipush (v := 14) dX9_way_19 (by decide) ?_
      refine v_callVi (As := [.int kz, .int (-1), .int 14]) (rest := []) lk_X9_237 (c_X9_in kz (-1) 14) dX9_way_21 rfl (ltn rfl) rfl rfl (Nat.le_of_ble_eq_true rfl) (by decide) ?_
      refine v_ifb_ne (tgt := 29) dX9_way_24 (by decide) (fun h11 => ?_) (fun h11 => ?_)
      · -- ((-1) ≤ kz ∧ kz ≤ 14)
        obtain ⟨sz, hsz, hes⟩ := hS P2 (by omega)
        have hes : I 69 P2 = nI sz := hes
        have tsz : tn (nI sz) = sz := tn_nI (by omega)
        have hl9 := lwn_le (I 71 P2) sz P7
        refine v_aload_n dX9_way_29 rfl 0 rfl ?_
        refine v_aload_n dX9_way_30 rfl 0 rfl ?_
        refine v_get (v := .ref (g.1 + 71)) fa_X9_32 dX9_way_31 rfl (by decide) (ltn rfl) rfl ?_
        refine v_iload_n dX9_way_34 rfl 1 rfl ?_
        refine v_iaload (len := 6) (j := P2) dX9_way_35 rfl (ltn rfl) rfl (by decide) rfl (by omega) ?_
        refine v_aload_n dX9_way_36 rfl 0 rfl ?_
        refine v_get (v := .ref (g.1 + 69)) fa_X9_26 dX9_way_37 rfl (by decide) (ltn rfl) rfl ?_
        refine v_iload_n dX9_way_40 rfl 1 rfl ?_
        refine v_iaload (len := 6) (j := P2) dX9_way_41 rfl (ltn rfl) rfl (by decide) rfl (by omega) ?_
        refine v_is (y := nI sz) hes ?_
        refine v_iload_n dX9_way_42 rfl 2 rfl ?_
        refine v_callV (As := [.int (I 71 P2), .int (nI sz), .int (nI P7)]) (rest := []) lk_X9_334 (c_X9_longWay (I 71 P2) sz P7 (by omega) (by omega)) dX9_way_43 rfl (ltn rfl) rfl rfl (Nat.le_of_ble_eq_true rfl) (by decide) (Nat.zero_le _) (Nat.zero_le _) (fun v I12 L_ R_ N_ n_ q13 => ?_)
        obtain ⟨rfl, ⟨hq, hrow, rfl⟩, rfl, rfl, rfl, rfl⟩ := q13
        have hD9 : ∀ j, j < 16 → dst (I 71 P2) P7 j ≤ 99 := fun j hj => (dst_is (I 71 P2) P7 j hj).1
        refine v_is (lw_lwn (I 71 P2) sz P7) ?_
        by_cases hlt : (lwn (I 71 P2) sz P7) < 99
        · refine v_is (ifc_t hlt) ?_
          refine v_istore (lv2 := [(4, .int (nI (lwn (I 71 P2) sz P7))), (0, .ref (g.1 + 65)), (1, .int (nI P2)), (2, .int (nI P7)), (3, .int kz)]) dX9_way_46 (by decide) rfl ?_
          refine v_iload_n dX9_way_48 rfl 4 rfl ?_
          refine v_if_ge (tgt := 55) dX9_way_49 (by decide) (fun h15 => ?_) (fun h15 => ?_)
          · have h15n := Int32.not_lt.mpr h15
            have hkn := nI_tn (Int32.le_iff_toInt_le.mp h15 : (0 : Int32).toInt ≤ kz.toInt)
            have hk2 := Int32.toInt_lt kz
            have hk3 : (tn kz : Int) = kz.toInt := tn_int (Int32.le_iff_toInt_le.mp h15)
            refine v_iload_n dX9_way_55 rfl 4 rfl ?_
            refine v_iload dX9_way_56 0 rfl ?_
            refine v_icmp_ltN (a := (tn kz)) (b := (lwn (I 71 P2) sz P7)) (tgt := 64) dX9_way_58 (by decide) hkn rfl (by omega) (by omega) (fun h16 => ?_) (fun h16 => ?_)
            · -- (tn kz) lt (lwn (I 71 P2) sz P7)
              refine v_aload_n dX9_way_64 rfl 1 rfl ?_
              refine v_get (v := .ref (g.1 + 69)) fa_X9_26 dX9_way_65 rfl (by decide) (ltn rfl) rfl ?_
              refine v_iload_n dX9_way_68 rfl 2 rfl ?_
              refine v_iaload (len := 6) (j := P2) dX9_way_69 rfl (ltn rfl) rfl (by decide) rfl (by omega) ?_
              refine v_is (y := I 69 P2) (by rfl) ?_
              refine v_is (y := nI sz) hes ?_
              refine v_istore (lv2 := [(5, .int (nI sz)), (4, .int (nI (lwn (I 71 P2) sz P7))), (0, .ref (g.1 + 65)), (1, .int (nI P2)), (2, .int (nI P7)), (3, .int kz)]) dX9_way_70 (by decide) rfl ?_
              refine v_iconst (v := 0) dX9_way_72 (by decide) ?_
              refine v_istore (lv2 := [(6, .int 0), (5, .int (nI sz)), (4, .int (nI (lwn (I 71 P2) sz P7))), (0, .ref (g.1 + 65)), (1, .int (nI P2)), (2, .int (nI P7)), (3, .int kz)]) dX9_way_73 (by decide) rfl ?_
              refine v_lv (lv2 := [(6, .int (nI 0)), (5, .int (nI (pth (dst (I 71 P2) P7) sz 0))), (4, .int (nI (lwn (I 71 P2) sz P7))), (0, .ref (g.1 + 65)), (1, .int (nI P2)), (2, .int (nI P7)), (3, .int kz)]) (by rfl) ?_
              refine dloop (P := fun i => V g F cX9_way RX9 7 4 75 [(6, .int (nI i)), (5, .int (nI (pth (dst (I 71 P2) P7) sz i))), (4, .int (nI (lwn (I 71 P2) sz P7))), (0, .ref (g.1 + 65)), (1, .int (nI P2)), (2, .int (nI P7)), (3, .int kz)] [] (scr I (I 83) hq) L_ (RT na nt ni) (NT nl) (NB + m) 0 0) (tn kz + 1) ?_ ?_ 0 (Nat.zero_le _)
              · refine v_iload dX9_way_75 0 rfl ?_
                refine v_iload_n dX9_way_77 rfl 6 rfl ?_
                refine v_icmp_gtN (a := (tn kz + 1)) (b := (tn kz)) (tgt := 95) dX9_way_78 (by decide) rfl hkn (by omega) (by omega) (fun h17 => ?_) (fun h => by exfalso; omega)
                refine v_iload dX9_way_95 1 rfl ?_
                exact v_iret hr dX9_way_97 (⟨congrArg (fun z => some (Value.int z)) (by first | rfl | (simp only [bq, ifc_T, ifc_F, inr_m1, and_true, true_and, and_false, false_and, or_true, true_or, or_false, false_or, not_true_eq_false, not_false_eq_true, and_self, or_self, h1, t4, u5, l3, h6, t9, u10, l8, h11, hes, tsz, hlt, h15n, h16, h17, wayV]; done) | (simp [bq, ifc_T, ifc_F, inr_m1, h1, t4, u5, l3, h6, t9, u10, l8, h11, hes, tsz, hlt, h15n, h16, h17, wayV]; done) | ((try simp only [bq, wayV]); repeat (first | rfl | (refine eq_t ?_ ?_; focus (first | omega | assumption | (simp [inr_m1, h1, t4, u5, l3, h6, t9, u10, l8, h11, hes, tsz, hlt, h15n, h16, h17]; done) | (simp [inr_m1, h1, t4, u5, l3, h6, t9, u10, l8, h11, hes, tsz, hlt, h15n, h16, h17]; omega) | (simp only [u5, u10]; omega) | (clear hr; (try clear hkn); simp_all; done))) | (refine eq_f ?_ ?_; focus (first | omega | assumption | (simp [inr_m1, h1, t4, u5, l3, h6, t9, u10, l8, h11, hes, tsz, hlt, h15n, h16, h17]; done) | (simp [inr_m1, h1, t4, u5, l3, h6, t9, u10, l8, h11, hes, tsz, hlt, h15n, h16, h17]; omega) | (simp only [u5, u10]; omega) | (clear hr; (try clear hkn); simp_all; done))) | (simp only [t4, t9, tsz]; done) | (exfalso; clear hr; (try clear hkn); simp_all; done)))), ⟨_, _, rfl⟩, rfl, rfl, rfl, rfl⟩)
              · intro i hi ih
                obtain ⟨hpl, hpn⟩ := pth_on hsz hlt i (by omega)
                obtain ⟨hps, hpm, hpd⟩ := hpn (by omega)
                refine v_iload dX9_way_75 0 rfl ?_
                refine v_iload_n dX9_way_77 rfl 6 rfl ?_
                refine v_icmp_gtN (a := i) (b := (tn kz)) (tgt := 95) dX9_way_78 (by decide) rfl hkn (by omega) (by omega) (fun h => by exfalso; omega) (fun h18 => ?_)
                refine v_aload_n dX9_way_81 rfl 3 rfl ?_
                refine v_iload dX9_way_82 1 rfl ?_
                refine v_callVi (As := [.int (nI (pth (dst (I 71 P2) P7) sz i))]) (rest := []) lk_X9_337 (c_X9_stepFrom (I := (scr I (I 83) hq)) (pth (dst (I 71 P2) P7) sz i) hpl (dst (I 71 P2) P7) hrow hD9) dX9_way_84 rfl (ltn rfl) rfl rfl (Nat.le_of_ble_eq_true rfl) (by decide) ?_
                refine v_is hps ?_
                refine v_istore (lv2 := [(5, .int (nI (pth (dst (I 71 P2) P7) sz (i + 1)))), (6, .int (nI i)), (4, .int (nI (lwn (I 71 P2) sz P7))), (0, .ref (g.1 + 65)), (1, .int (nI P2)), (2, .int (nI P7)), (3, .int kz)]) dX9_way_87 (by decide) rfl ?_
                refine v_inc (v := nI (i + 1)) (lv2 := [(6, .int (nI (i + 1))), (5, .int (nI (pth (dst (I 71 P2) P7) sz (i + 1)))), (4, .int (nI (lwn (I 71 P2) sz P7))), (0, .ref (g.1 + 65)), (1, .int (nI P2)), (2, .int (nI P7)), (3, .int kz)]) dX9_way_89 1 rfl (nx_inc rfl) (by decide) rfl ?_
                refine v_goto (tgt := 75) dX9_way_92 (by decide) ?_
                exact ih
            · -- (tn kz) ge (lwn (I 71 P2) sz P7)
              refine v_bipush (v := (-5)) dX9_way_61 (by decide) ?_
              exact v_iret hr dX9_way_63 (⟨congrArg (fun z => some (Value.int z)) (by first | rfl | (simp only [bq, ifc_T, ifc_F, inr_m1, and_true, true_and, and_false, false_and, or_true, true_or, or_false, false_or, not_true_eq_false, not_false_eq_true, and_self, or_self, h1, t4, u5, l3, h6, t9, u10, l8, h11, hes, tsz, hlt, h15n, h16, wayV]; done) | (simp [bq, ifc_T, ifc_F, inr_m1, h1, t4, u5, l3, h6, t9, u10, l8, h11, hes, tsz, hlt, h15n, h16, wayV]; done) | ((try simp only [bq, wayV]); repeat (first | rfl | (refine eq_t ?_ ?_; focus (first | omega | assumption | (simp [inr_m1, h1, t4, u5, l3, h6, t9, u10, l8, h11, hes, tsz, hlt, h15n, h16]; done) | (simp [inr_m1, h1, t4, u5, l3, h6, t9, u10, l8, h11, hes, tsz, hlt, h15n, h16]; omega) | (simp only [u5, u10]; omega) | (clear hr; (try clear hkn); simp_all; done))) | (refine eq_f ?_ ?_; focus (first | omega | assumption | (simp [inr_m1, h1, t4, u5, l3, h6, t9, u10, l8, h11, hes, tsz, hlt, h15n, h16]; done) | (simp [inr_m1, h1, t4, u5, l3, h6, t9, u10, l8, h11, hes, tsz, hlt, h15n, h16]; omega) | (simp only [u5, u10]; omega) | (clear hr; (try clear hkn); simp_all; done))) | (simp only [t4, t9, tsz]; done) | (exfalso; clear hr; (try clear hkn); simp_all; done)))), ⟨_, _, rfl⟩, rfl, rfl, rfl, rfl⟩)
          · have h15n := Int32.not_le.mp h15
            refine v_iload dX9_way_52 0 rfl ?_
            exact v_iret hr dX9_way_54 (⟨congrArg (fun z => some (Value.int z)) (by first | rfl | (simp only [bq, ifc_T, ifc_F, inr_m1, and_true, true_and, and_false, false_and, or_true, true_or, or_false, false_or, not_true_eq_false, not_false_eq_true, and_self, or_self, h1, t4, u5, l3, h6, t9, u10, l8, h11, hes, tsz, hlt, h15n, wayV]; done) | (simp [bq, ifc_T, ifc_F, inr_m1, h1, t4, u5, l3, h6, t9, u10, l8, h11, hes, tsz, hlt, h15n, wayV]; done) | ((try simp only [bq, wayV]); repeat (first | rfl | (refine eq_t ?_ ?_; focus (first | omega | assumption | (simp [inr_m1, h1, t4, u5, l3, h6, t9, u10, l8, h11, hes, tsz, hlt, h15n]; done) | (simp [inr_m1, h1, t4, u5, l3, h6, t9, u10, l8, h11, hes, tsz, hlt, h15n]; omega) | (simp only [u5, u10]; omega) | (clear hr; (try clear hkn); simp_all; done))) | (refine eq_f ?_ ?_; focus (first | omega | assumption | (simp [inr_m1, h1, t4, u5, l3, h6, t9, u10, l8, h11, hes, tsz, hlt, h15n]; done) | (simp [inr_m1, h1, t4, u5, l3, h6, t9, u10, l8, h11, hes, tsz, hlt, h15n]; omega) | (simp only [u5, u10]; omega) | (clear hr; (try clear hkn); simp_all; done))) | (simp only [t4, t9, tsz]; done) | (exfalso; clear hr; (try clear hkn); simp_all; done)))), ⟨_, _, rfl⟩, rfl, rfl, rfl, rfl⟩)
        · refine v_is (ifc_f hlt) ?_
          refine v_istore (lv2 := [(4, .int (-5)), (0, .ref (g.1 + 65)), (1, .int (nI P2)), (2, .int (nI P7)), (3, .int kz)]) dX9_way_46 (by decide) rfl ?_
          refine v_iload_n dX9_way_48 rfl 4 rfl ?_
          refine v_if_ge (tgt := 55) dX9_way_49 (by decide) (fun h20 => ?_) (fun h20 => ?_)
          · have h20n := Int32.not_lt.mpr h20
            have hkn0 := h20n
            refine v_iload_n dX9_way_55 rfl 4 rfl ?_
            refine v_iload dX9_way_56 0 rfl ?_
            refine v_icmp_lt (tgt := 64) dX9_way_58 (by decide) (fun h => absurd h (Int32.not_lt.mpr (Int32.le_trans (by decide) (Int32.not_lt.mp hkn0)))) (fun _ => ?_)
            refine v_bipush (v := (-5)) dX9_way_61 (by decide) ?_
            exact v_iret hr dX9_way_63 (⟨congrArg (fun z => some (Value.int z)) (by first | rfl | (simp only [bq, ifc_T, ifc_F, inr_m1, and_true, true_and, and_false, false_and, or_true, true_or, or_false, false_or, not_true_eq_false, not_false_eq_true, and_self, or_self, h1, t4, u5, l3, h6, t9, u10, l8, h11, hes, tsz, hlt, h20n, wayV]; done) | (simp [bq, ifc_T, ifc_F, inr_m1, h1, t4, u5, l3, h6, t9, u10, l8, h11, hes, tsz, hlt, h20n, wayV]; done) | ((try simp only [bq, wayV]); repeat (first | rfl | (refine eq_t ?_ ?_; focus (first | omega | assumption | (simp [inr_m1, h1, t4, u5, l3, h6, t9, u10, l8, h11, hes, tsz, hlt, h20n]; done) | (simp [inr_m1, h1, t4, u5, l3, h6, t9, u10, l8, h11, hes, tsz, hlt, h20n]; omega) | (simp only [u5, u10]; omega) | (clear hr; (try clear hkn); simp_all; done))) | (refine eq_f ?_ ?_; focus (first | omega | assumption | (simp [inr_m1, h1, t4, u5, l3, h6, t9, u10, l8, h11, hes, tsz, hlt, h20n]; done) | (simp [inr_m1, h1, t4, u5, l3, h6, t9, u10, l8, h11, hes, tsz, hlt, h20n]; omega) | (simp only [u5, u10]; omega) | (clear hr; (try clear hkn); simp_all; done))) | (simp only [t4, t9, tsz]; done) | (exfalso; clear hr; (try clear hkn); simp_all; done)))), ⟨_, _, rfl⟩, rfl, rfl, rfl, rfl⟩)
          · have h20n := Int32.not_le.mp h20
            refine v_iload dX9_way_52 0 rfl ?_
            exact v_iret hr dX9_way_54 (⟨congrArg (fun z => some (Value.int z)) (by first | rfl | (simp only [bq, ifc_T, ifc_F, inr_m1, and_true, true_and, and_false, false_and, or_true, true_or, or_false, false_or, not_true_eq_false, not_false_eq_true, and_self, or_self, h1, t4, u5, l3, h6, t9, u10, l8, h11, hes, tsz, hlt, h20n, wayV]; done) | (simp [bq, ifc_T, ifc_F, inr_m1, h1, t4, u5, l3, h6, t9, u10, l8, h11, hes, tsz, hlt, h20n, wayV]; done) | ((try simp only [bq, wayV]); repeat (first | rfl | (refine eq_t ?_ ?_; focus (first | omega | assumption | (simp [inr_m1, h1, t4, u5, l3, h6, t9, u10, l8, h11, hes, tsz, hlt, h20n]; done) | (simp [inr_m1, h1, t4, u5, l3, h6, t9, u10, l8, h11, hes, tsz, hlt, h20n]; omega) | (simp only [u5, u10]; omega) | (clear hr; (try clear hkn); simp_all; done))) | (refine eq_f ?_ ?_; focus (first | omega | assumption | (simp [inr_m1, h1, t4, u5, l3, h6, t9, u10, l8, h11, hes, tsz, hlt, h20n]; done) | (simp [inr_m1, h1, t4, u5, l3, h6, t9, u10, l8, h11, hes, tsz, hlt, h20n]; omega) | (simp only [u5, u10]; omega) | (clear hr; (try clear hkn); simp_all; done))) | (simp only [t4, t9, tsz]; done) | (exfalso; clear hr; (try clear hkn); simp_all; done)))), ⟨_, _, rfl⟩, rfl, rfl, rfl, rfl⟩)
      · -- not ((-1) ≤ kz ∧ kz ≤ 14)
        refine v_iconst (v := (-1)) dX9_way_27 (by decide) ?_
        exact v_iret hr dX9_way_28 (⟨congrArg (fun z => some (Value.int z)) (by first | rfl | (simp only [bq, ifc_T, ifc_F, inr_m1, and_true, true_and, and_false, false_and, or_true, true_or, or_false, false_or, not_true_eq_false, not_false_eq_true, and_self, or_self, h1, t4, u5, l3, h6, t9, u10, l8, h11, wayV]; done) | (simp [bq, ifc_T, ifc_F, inr_m1, h1, t4, u5, l3, h6, t9, u10, l8, h11, wayV]; done) | ((try simp only [bq, wayV]); repeat (first | rfl | (refine eq_t ?_ ?_; focus (first | omega | assumption | (simp [inr_m1, h1, t4, u5, l3, h6, t9, u10, l8, h11]; done) | (simp [inr_m1, h1, t4, u5, l3, h6, t9, u10, l8, h11]; omega) | (simp only [u5, u10]; omega) | (clear hr; (try clear hkn); simp_all; done))) | (refine eq_f ?_ ?_; focus (first | omega | assumption | (simp [inr_m1, h1, t4, u5, l3, h6, t9, u10, l8, h11]; done) | (simp [inr_m1, h1, t4, u5, l3, h6, t9, u10, l8, h11]; omega) | (simp only [u5, u10]; omega) | (clear hr; (try clear hkn); simp_all; done))) | (simp only [t4, t9]; done) | (exfalso; clear hr; (try clear hkn); simp_all; done)))), ⟨_, _, scr_self I⟩, rfl, rfl, rfl, rfl⟩)
