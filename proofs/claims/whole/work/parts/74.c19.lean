set_option maxRecDepth 100000 in
set_option maxHeartbeats 1000000 in
theorem c_X8_isPlanRow {g : Gl} {I : Ty} {L : TL} {na nt ni m : Nat} {nl : Nat → Nat} (wz : Int32) (nz : Int32) (pp : Nat) (hpp : pp ≤ 6) (hpe : I 23 1 = nI pp) : Ct g yX8_isPlanRow cX8_isPlanRow 3 (some .boolean) 1 0 0 [.ref (g.1 + 0), .int wz, .int nz] I L (RT na nt ni) (NT nl) (NB + m) (Ps (some (.int (bq (plnC pp wz nz)))) (I) L (RT na nt ni) (NT nl) (NB + m)) := by
  refine ct_of (by decide +kernel) (Nat.le_of_ble_eq_true rfl) (fun F hnm hr => ?_)
  clear hnm
  show V g F cX8_isPlanRow RX8 3 1 0 [(0, .ref (g.1 + 0)), (1, .int wz), (2, .int nz)] [] I L (RT na nt ni) (NT nl) (NB + m) 0 0
  refine v_iload_n dX8_isPlanRow_0 rfl 1 rfl ?_
  by_cases k1_0 : wz = 0
  · refine v_is k1_0 ?_
    refine v_tabIn (off := 31) (tgt := 32) dX8_isPlanRow_1 (by decide) (by decide) (by decide) (by decide) ?_
    refine v_iconst (v := 1) dX8_isPlanRow_32 (by decide) ?_
    exact v_zret hr dX8_isPlanRow_33 (by first | rfl | exact nbq) (psi (bq_t (Or.inl k1_0)).symm rfl)
  by_cases k1_1 : wz = 1
  · refine v_is k1_1 ?_
    refine v_tabIn (off := 33) (tgt := 34) dX8_isPlanRow_1 (by decide) (by decide) (by decide) (by decide) ?_
    refine v_aload_n dX8_isPlanRow_34 rfl 0 rfl ?_
    refine v_iload_n dX8_isPlanRow_35 rfl 2 rfl ?_
    refine v_callVi (As := [.int nz]) (rest := []) lk_X8_74 (c_X8_isTraveller nz pp hpp hpe) dX8_isPlanRow_36 rfl (ltn rfl) rfl rfl (Nat.le_of_ble_eq_true rfl) (by decide) ?_
    exact v_zret hr dX8_isPlanRow_39 (by first | rfl | exact nbq) (psi (bq_congr ⟨fun q => Or.inr (Or.inl ⟨Or.inl k1_1, q⟩), fun q => by rcases q with q | ⟨q, q2⟩ | ⟨q, q2⟩; (rw [k1_1] at q; exact absurd q (by decide)); (exact q2); (rw [k1_1] at q; exact absurd q (by decide))⟩) rfl)
  by_cases k1_2 : wz = 2
  · refine v_is k1_2 ?_
    refine v_tabIn (off := 39) (tgt := 40) dX8_isPlanRow_1 (by decide) (by decide) (by decide) (by decide) ?_
    refine v_aload_n dX8_isPlanRow_40 rfl 0 rfl ?_
    refine v_iload_n dX8_isPlanRow_41 rfl 2 rfl ?_
    refine v_bipush (v := 10) dX8_isPlanRow_42 (by decide) ?_
    refine v_idiv dX8_isPlanRow_44 (by decide) ?_
    refine v_callVi (As := [.int (nz / 10)]) (rest := []) lk_X8_74 (c_X8_isTraveller (nz / 10) pp hpp hpe) dX8_isPlanRow_45 rfl (ltn rfl) rfl rfl (Nat.le_of_ble_eq_true rfl) (by decide) ?_
    refine v_ifb_eq (tgt := 66) dX8_isPlanRow_48 (by decide) (fun h2 => ?_) (fun h2 => ?_)
    · -- not inr (nz / 10) pp
      refine v_iconst (v := 0) dX8_isPlanRow_66 (by decide) ?_
      exact v_zret hr dX8_isPlanRow_67 (by first | rfl | exact nbq) (psi (bq_f (fun q => by rcases q with q | ⟨q | q, q2⟩ | ⟨q, q2⟩ <;> first | (rw [k1_2] at q; exact absurd q (by decide)) | exact h2 q2.1)).symm rfl)
    · -- inr (nz / 10) pp
      have e3 := inr_nI h2
      have l4 := inr_lt h2
      refine v_aload_n dX8_isPlanRow_51 rfl 0 rfl ?_
      refine v_iload_n dX8_isPlanRow_52 rfl 2 rfl ?_
      refine v_bipush (v := 10) dX8_isPlanRow_53 (by decide) ?_
      refine v_irem dX8_isPlanRow_55 (by decide) ?_
      refine v_callVi (As := [.int (nz - nz / 10 * 10)]) (rest := []) lk_X8_74 (c_X8_isTraveller (nz - nz / 10 * 10) pp hpp hpe) dX8_isPlanRow_56 rfl (ltn rfl) rfl rfl (Nat.le_of_ble_eq_true rfl) (by decide) ?_
      refine v_ifb_eq (tgt := 66) dX8_isPlanRow_59 (by decide) (fun h5 => ?_) (fun h5 => ?_)
      · -- not inr (nz - nz / 10 * 10) pp
        refine v_iconst (v := 0) dX8_isPlanRow_66 (by decide) ?_
        exact v_zret hr dX8_isPlanRow_67 (by first | rfl | exact nbq) (psi (bq_f (fun q => by rcases q with q | ⟨q | q, q2⟩ | ⟨q, q2⟩ <;> first | (rw [k1_2] at q; exact absurd q (by decide)) | exact h5 q2.2)).symm rfl)
      · -- inr (nz - nz / 10 * 10) pp
        have e6 := inr_nI h5
        have l7 := inr_lt h5
        refine v_iconst (v := 1) dX8_isPlanRow_62 (by decide) ?_
        refine v_goto (tgt := 67) dX8_isPlanRow_63 (by decide) ?_
        exact v_zret hr dX8_isPlanRow_67 (by first | rfl | exact nbq) (psi (bq_t (Or.inr (Or.inr ⟨k1_2, h2, h5⟩))).symm rfl)
  by_cases k1_3 : wz = 3
  · refine v_is k1_3 ?_
    refine v_tabIn (off := 33) (tgt := 34) dX8_isPlanRow_1 (by decide) (by decide) (by decide) (by decide) ?_
    refine v_aload_n dX8_isPlanRow_34 rfl 0 rfl ?_
    refine v_iload_n dX8_isPlanRow_35 rfl 2 rfl ?_
    refine v_callVi (As := [.int nz]) (rest := []) lk_X8_74 (c_X8_isTraveller nz pp hpp hpe) dX8_isPlanRow_36 rfl (ltn rfl) rfl rfl (Nat.le_of_ble_eq_true rfl) (by decide) ?_
    exact v_zret hr dX8_isPlanRow_39 (by first | rfl | exact nbq) (psi (bq_congr ⟨fun q => Or.inr (Or.inl ⟨Or.inr k1_3, q⟩), fun q => by rcases q with q | ⟨q, q2⟩ | ⟨q, q2⟩; (rw [k1_3] at q; exact absurd q (by decide)); (exact q2); (rw [k1_3] at q; exact absurd q (by decide))⟩) rfl)
  have t8 : wz.toInt < 0 ∨ 3 < wz.toInt := by
    rcases sw_out wz (0) (3) with h | h | ⟨ha, hb⟩
    · exact Or.inl h
    · exact Or.inr h
    · exfalso
      have hz : ∀ z : Int, 0 ≤ z → z ≤ 3 → z = 0 ∨ z = 1 ∨ z = 2 ∨ z = 3 := by omega
      rcases hz _ ha hb with e | e | e | e
      · exact absurd (sw_eq (k := 0) e (by decide)) k1_0
      · exact absurd (sw_eq (k := 1) e (by decide)) k1_1
      · exact absurd (sw_eq (k := 2) e (by decide)) k1_2
      · exact absurd (sw_eq (k := 3) e (by decide)) k1_3
  refine v_tabOut (tgt := 68) dX8_isPlanRow_1 t8 (by decide) ?_
  refine v_iconst (v := 0) dX8_isPlanRow_68 (by decide) ?_
  exact v_zret hr dX8_isPlanRow_69 (by first | rfl | exact nbq) (psi (bq_f (fun q => by rcases q with q | ⟨q | q, q2⟩ | ⟨q, q2⟩; exact k1_0 q; exact k1_1 q; exact k1_3 q; exact k1_2 q)).symm rfl)
set_option maxRecDepth 100000 in
set_option maxHeartbeats 1000000 in
theorem c_X8_plan {g : Gl} {I : Ty} {L : TL} {na nt ni m : Nat} {nl : Nat → Nat} (wz : Int32) (nz : Int32) (pp : Nat) (hpp : pp ≤ 6) (hpe : I 23 1 = nI pp) (kn : Nat) (hkl : kn ≤ 8) (hkn : I 4 0 = nI kn) (hmo : I 4 1 = nI 8) : Ct g yX8_plan cX8_plan 3 (some .int) 2 0 0 [.ref (g.1 + 0), .int wz, .int nz] I L (RT na nt ni) (NT nl) (NB + m) (PZ na ni m nl (some (.int (ifc (wz = -1) 0 (ifc (plnC pp wz nz) (ifc (kn = 8) (-4) (nI (kn + 1))) (-1))))) (ifc (wz = -1) (wr I 4 0 0) (ifc (plnC pp wz nz ∧ kn ≠ 8) (appI I 4 5 kn wz nz 0) I)) L) := by
  refine ct_of (by decide +kernel) (Nat.le_of_ble_eq_true rfl) (fun F hnm hr => ?_)
  clear hnm
  show V g F cX8_plan RX8 3 2 0 [(0, .ref (g.1 + 0)), (1, .int wz), (2, .int nz)] [] I L (RT na nt ni) (NT nl) (NB + m) 0 0
  refine v_iload_n dX8_plan_0 rfl 1 rfl ?_
  refine v_iconst (v := (-1)) dX8_plan_1 (by decide) ?_
  refine v_icmp_ne (tgt := 16) dX8_plan_2 (by decide) (fun h1 => ?_) (fun h1 => ?_)
  · -- wz ne (-1)
    refine v_aload_n dX8_plan_16 rfl 0 rfl ?_
    refine v_iload_n dX8_plan_17 rfl 1 rfl ?_
    refine v_iload_n dX8_plan_18 rfl 2 rfl ?_
    refine v_callVi (As := [.int wz, .int nz]) (rest := []) lk_X8_225 (c_X8_isPlanRow wz nz pp hpp hpe) dX8_plan_19 rfl (ltn rfl) rfl rfl (Nat.le_of_ble_eq_true rfl) (by decide) ?_
    refine v_ifb_ne (tgt := 27) dX8_plan_22 (by decide) (fun h2 => ?_) (fun h2 => ?_)
    · -- (plnC pp wz nz)
      refine v_aload_n dX8_plan_27 rfl 0 rfl ?_
      refine v_get (v := .ref (g.1 + 1)) fa_X8_12 dX8_plan_28 rfl (by decide) (ltn rfl) rfl ?_
      refine v_get (v := .ref (g.1 + 4)) fa_X8_222 dX8_plan_31 rfl (by decide) (ltn rfl) rfl ?_
      refine v_callVi (As := []) (rest := []) lk_X8_194 (c_isFull_4 (I := I) kn hkn (by omega) hmo) dX8_plan_34 rfl (ltn rfl) rfl rfl (Nat.le_of_ble_eq_true rfl) (by decide) ?_
      refine v_ifb_eq (tgt := 45) dX8_plan_37 (by decide) (fun h3 => ?_) (fun h3 => ?_)
      · -- not (8 ≤ kn)
        refine v_aload_n dX8_plan_45 rfl 0 rfl ?_
        refine v_get (v := .ref (g.1 + 1)) fa_X8_12 dX8_plan_46 rfl (by decide) (ltn rfl) rfl ?_
        refine v_get (v := .ref (g.1 + 4)) fa_X8_222 dX8_plan_49 rfl (by decide) (ltn rfl) rfl ?_
        refine v_iload_n dX8_plan_52 rfl 1 rfl ?_
        refine v_iload_n dX8_plan_53 rfl 2 rfl ?_
        refine v_iconst (v := 0) dX8_plan_54 (by decide) ?_
        refine v_callVi (As := [.int wz, .int nz, .int 0]) (rest := []) lk_X8_197 (c_append_4 (I := I) wz nz 0 kn hkn (by omega)) dX8_plan_55 rfl (ltn rfl) rfl rfl (Nat.le_of_ble_eq_true rfl) (by decide) ?_
        exact v_iret hr dX8_plan_58 (⟨congrArg (fun z => some (Value.int z)) (by first | rfl | (simp only [bq, ifc_T, ifc_F, inr_m1, and_true, true_and, and_false, false_and, or_true, true_or, or_false, false_or, not_true_eq_false, not_false_eq_true, and_self, or_self, h1, h2, h3]; done) | (simp [bq, ifc_T, ifc_F, inr_m1, h1, h2, h3]; done) | ((try simp only [bq]); repeat (first | rfl | (refine eq_t ?_ ?_; focus (first | omega | assumption | (simp [inr_m1, h1, h2, h3]; done) | (simp [inr_m1, h1, h2, h3]; omega) | (clear hr; (try clear hkn); simp_all; done))) | (refine eq_f ?_ ?_; focus (first | omega | assumption | (simp [inr_m1, h1, h2, h3]; done) | (simp [inr_m1, h1, h2, h3]; omega) | (clear hr; (try clear hkn); simp_all; done))) | (exfalso; clear hr; (try clear hkn); simp_all; done)))), ⟨_, (show (appI I 4 5 kn wz nz 0) = _ from (by first | rfl | (simp only [bq, ifc_T, ifc_F, inr_m1, and_true, true_and, and_false, false_and, or_true, true_or, or_false, false_or, not_true_eq_false, not_false_eq_true, and_self, or_self, h1, h2, h3]; done) | (simp [bq, ifc_T, ifc_F, inr_m1, h1, h2, h3]; done) | ((try simp only [bq]); repeat (first | rfl | (refine eq_t ?_ ?_; focus (first | omega | assumption | (simp [inr_m1, h1, h2, h3]; done) | (simp [inr_m1, h1, h2, h3]; omega) | (clear hr; (try clear hkn); simp_all; done))) | (refine eq_f ?_ ?_; focus (first | omega | assumption | (simp [inr_m1, h1, h2, h3]; done) | (simp [inr_m1, h1, h2, h3]; omega) | (clear hr; (try clear hkn); simp_all; done))) | (exfalso; clear hr; (try clear hkn); simp_all; done))))).trans (scC_self _)⟩, rfl, ⟨_, rfl⟩, rfl, rfl⟩)
      · -- (8 ≤ kn)
        refine v_bipush (v := (-4)) dX8_plan_40 (by decide) ?_
        refine v_goto (tgt := 58) dX8_plan_42 (by decide) ?_
        exact v_iret hr dX8_plan_58 (⟨congrArg (fun z => some (Value.int z)) (by first | rfl | (simp only [bq, ifc_T, ifc_F, inr_m1, and_true, true_and, and_false, false_and, or_true, true_or, or_false, false_or, not_true_eq_false, not_false_eq_true, and_self, or_self, h1, h2, h3]; done) | (simp [bq, ifc_T, ifc_F, inr_m1, h1, h2, h3]; done) | ((try simp only [bq]); repeat (first | rfl | (refine eq_t ?_ ?_; focus (first | omega | assumption | (simp [inr_m1, h1, h2, h3]; done) | (simp [inr_m1, h1, h2, h3]; omega) | (clear hr; (try clear hkn); simp_all; done))) | (refine eq_f ?_ ?_; focus (first | omega | assumption | (simp [inr_m1, h1, h2, h3]; done) | (simp [inr_m1, h1, h2, h3]; omega) | (clear hr; (try clear hkn); simp_all; done))) | (exfalso; clear hr; (try clear hkn); simp_all; done)))), ⟨_, (show I = _ from (by first | rfl | (simp only [bq, ifc_T, ifc_F, inr_m1, and_true, true_and, and_false, false_and, or_true, true_or, or_false, false_or, not_true_eq_false, not_false_eq_true, and_self, or_self, h1, h2, h3]; done) | (simp [bq, ifc_T, ifc_F, inr_m1, h1, h2, h3]; done) | ((try simp only [bq]); repeat (first | rfl | (refine eq_t ?_ ?_; focus (first | omega | assumption | (simp [inr_m1, h1, h2, h3]; done) | (simp [inr_m1, h1, h2, h3]; omega) | (clear hr; (try clear hkn); simp_all; done))) | (refine eq_f ?_ ?_; focus (first | omega | assumption | (simp [inr_m1, h1, h2, h3]; done) | (simp [inr_m1, h1, h2, h3]; omega) | (clear hr; (try clear hkn); simp_all; done))) | (exfalso; clear hr; (try clear hkn); simp_all; done))))).trans (scC_self _)⟩, rfl, ⟨_, rfl⟩, rfl, rfl⟩)
    · -- not (plnC pp wz nz)
      refine v_iconst (v := (-1)) dX8_plan_25 (by decide) ?_
      exact v_iret hr dX8_plan_26 (⟨congrArg (fun z => some (Value.int z)) (by first | rfl | (simp only [bq, ifc_T, ifc_F, inr_m1, and_true, true_and, and_false, false_and, or_true, true_or, or_false, false_or, not_true_eq_false, not_false_eq_true, and_self, or_self, h1, h2]; done) | (simp [bq, ifc_T, ifc_F, inr_m1, h1, h2]; done) | ((try simp only [bq]); repeat (first | rfl | (refine eq_t ?_ ?_; focus (first | omega | assumption | (simp [inr_m1, h1, h2]; done) | (simp [inr_m1, h1, h2]; omega) | (clear hr; (try clear hkn); simp_all; done))) | (refine eq_f ?_ ?_; focus (first | omega | assumption | (simp [inr_m1, h1, h2]; done) | (simp [inr_m1, h1, h2]; omega) | (clear hr; (try clear hkn); simp_all; done))) | (exfalso; clear hr; (try clear hkn); simp_all; done)))), ⟨_, (show I = _ from (by first | rfl | (simp only [bq, ifc_T, ifc_F, inr_m1, and_true, true_and, and_false, false_and, or_true, true_or, or_false, false_or, not_true_eq_false, not_false_eq_true, and_self, or_self, h1, h2]; done) | (simp [bq, ifc_T, ifc_F, inr_m1, h1, h2]; done) | ((try simp only [bq]); repeat (first | rfl | (refine eq_t ?_ ?_; focus (first | omega | assumption | (simp [inr_m1, h1, h2]; done) | (simp [inr_m1, h1, h2]; omega) | (clear hr; (try clear hkn); simp_all; done))) | (refine eq_f ?_ ?_; focus (first | omega | assumption | (simp [inr_m1, h1, h2]; done) | (simp [inr_m1, h1, h2]; omega) | (clear hr; (try clear hkn); simp_all; done))) | (exfalso; clear hr; (try clear hkn); simp_all; done))))).trans (scC_self _)⟩, rfl, ⟨_, rfl⟩, rfl, rfl⟩)
  · -- wz eq (-1)
    refine v_aload_n dX8_plan_5 rfl 0 rfl ?_
    refine v_get (v := .ref (g.1 + 1)) fa_X8_12 dX8_plan_6 rfl (by decide) (ltn rfl) rfl ?_
    refine v_get (v := .ref (g.1 + 4)) fa_X8_222 dX8_plan_9 rfl (by decide) (ltn rfl) rfl ?_
    refine v_callVi (As := []) (rest := []) lk_X8_189 (c_empty_4 (I := I)) dX8_plan_12 rfl (ltn rfl) rfl rfl (Nat.le_of_ble_eq_true rfl) (by decide) ?_
    exact v_iret hr dX8_plan_15 (⟨congrArg (fun z => some (Value.int z)) (by first | rfl | (simp only [bq, ifc_T, ifc_F, inr_m1, and_true, true_and, and_false, false_and, or_true, true_or, or_false, false_or, not_true_eq_false, not_false_eq_true, and_self, or_self, h1]; done) | (simp [bq, ifc_T, ifc_F, inr_m1, h1]; done) | ((try simp only [bq]); repeat (first | rfl | (refine eq_t ?_ ?_; focus (first | omega | assumption | (simp [inr_m1, h1]; done) | (simp [inr_m1, h1]; omega) | (clear hr; (try clear hkn); simp_all; done))) | (refine eq_f ?_ ?_; focus (first | omega | assumption | (simp [inr_m1, h1]; done) | (simp [inr_m1, h1]; omega) | (clear hr; (try clear hkn); simp_all; done))) | (exfalso; clear hr; (try clear hkn); simp_all; done)))), ⟨_, (show (wr I 4 0 0) = _ from (by first | rfl | (simp only [bq, ifc_T, ifc_F, inr_m1, and_true, true_and, and_false, false_and, or_true, true_or, or_false, false_or, not_true_eq_false, not_false_eq_true, and_self, or_self, h1]; done) | (simp [bq, ifc_T, ifc_F, inr_m1, h1]; done) | ((try simp only [bq]); repeat (first | rfl | (refine eq_t ?_ ?_; focus (first | omega | assumption | (simp [inr_m1, h1]; done) | (simp [inr_m1, h1]; omega) | (clear hr; (try clear hkn); simp_all; done))) | (refine eq_f ?_ ?_; focus (first | omega | assumption | (simp [inr_m1, h1]; done) | (simp [inr_m1, h1]; omega) | (clear hr; (try clear hkn); simp_all; done))) | (exfalso; clear hr; (try clear hkn); simp_all; done))))).trans (scC_self _)⟩, rfl, ⟨_, rfl⟩, rfl, rfl⟩)
noncomputable def lokV (P : Nat → Prop) (n : Nat) : Int32 := ifc (frst P n = n) (-5) (nI (frst P n))
set_option maxRecDepth 100000 in
set_option maxHeartbeats 1000000 in
theorem c_X8_looked {g : Gl} {I : Ty} {L : TL} {na nt ni m : Nat} {nl : Nat → Nat}  (pp : Nat) (hpp : pp ≤ 6) (hpe : I 23 1 = nI pp) (kn : Nat) (hkl : kn ≤ 8) (hkn : I 6 0 = nI kn) (hbw : ∀ k, k < kn → ∃ x, x < pp ∧ I 7 (3 * k) = nI x) : Ct g yX8_looked cX8_looked 3 (some .int) 2 0 0 [.ref (g.1 + 0)] I L (RT na nt ni) (NT nl) (NB + m) (PZ na ni m nl (some (.int (frsV (fun k => ¬ I 29 (tn (I 7 (3 * k))) = I 7 (3 * k + 1)) kn))) (I) L) := by
  refine ct_of (by decide +kernel) (Nat.le_of_ble_eq_true rfl) (fun F hnm hr => ?_)
  clear hnm
  show V g F cX8_looked RX8 3 2 0 [(0, .ref (g.1 + 0))] [] I L (RT na nt ni) (NT nl) (NB + m) 0 0
  refine v_iconst (v := 0) dX8_looked_0 (by decide) ?_
  refine v_istore_n (lv2 := [(1, .int 0), (0, .ref (g.1 + 0))]) dX8_looked_1 rfl (by decide) rfl ?_
  refine v_lv (lv2 := [(1, .int (nI 0)), (0, .ref (g.1 + 0))]) (by rfl) ?_
  refine dloop (P := fun i => (∀ j, j < i → ¬ (fun k => ¬ I 29 (tn (I 7 (3 * k))) = I 7 (3 * k + 1)) j) → V g F cX8_looked RX8 3 2 2 [(1, .int (nI i)), (0, .ref (g.1 + 0))] [] I L (RT na nt ni) (NT nl) (NB + m) 0 0) kn ?_ ?_ 0 (Nat.zero_le _) (fun j h => absurd h (Nat.not_lt_zero j))
  · intro hinv
    refine v_iload_n dX8_looked_2 rfl 0 rfl ?_
    refine v_aload_n dX8_looked_3 rfl 1 rfl ?_
    refine v_get (v := .ref (g.1 + 1)) fa_X8_12 dX8_looked_4 rfl (by decide) (ltn rfl) rfl ?_
    refine v_get (v := .ref (g.1 + 6)) fa_X8_244 dX8_looked_7 rfl (by decide) (ltn rfl) rfl ?_
    refine v_get (v := .int (I 6 0)) fa_X8_233 dX8_looked_10 rfl (by decide) (ltn rfl) rfl ?_
    refine v_is hkn ?_
    refine v_icmp_geN (a := kn) (b := kn) (tgt := 67) dX8_looked_13 (by decide) rfl rfl (by omega) (by omega) (fun h1 => ?_) (fun h => by exfalso; omega)
    refine v_bipush (v := (-5)) dX8_looked_67 (by decide) ?_
    exact v_iret hr dX8_looked_69 (⟨congrArg (fun z => some (Value.int z)) (frsV_no hinv), ⟨_, scC_self _⟩, rfl, ⟨_, rfl⟩, rfl, rfl⟩)
  · intro i hi ih
    intro hinv
    obtain ⟨bw, hbw1, hbw2⟩ := hbw i hi
    have htb : tn (I 7 (3 * i)) = bw := by rw [hbw2, tn_nI (by omega)]
    have hib : inr (nI bw) pp := (inr_of_nI (by omega)).mpr hbw1
    refine v_iload_n dX8_looked_2 rfl 0 rfl ?_
    refine v_aload_n dX8_looked_3 rfl 1 rfl ?_
    refine v_get (v := .ref (g.1 + 1)) fa_X8_12 dX8_looked_4 rfl (by decide) (ltn rfl) rfl ?_
    refine v_get (v := .ref (g.1 + 6)) fa_X8_244 dX8_looked_7 rfl (by decide) (ltn rfl) rfl ?_
    refine v_get (v := .int (I 6 0)) fa_X8_233 dX8_looked_10 rfl (by decide) (ltn rfl) rfl ?_
    refine v_is hkn ?_
    refine v_icmp_geN (a := i) (b := kn) (tgt := 67) dX8_looked_13 (by decide) rfl rfl (by omega) (by omega) (fun h => by exfalso; omega) (fun h2 => ?_)
    refine v_aload_n dX8_looked_16 rfl 1 rfl ?_
    refine v_get (v := .ref (g.1 + 1)) fa_X8_12 dX8_looked_17 rfl (by decide) (ltn rfl) rfl ?_
    refine v_get (v := .ref (g.1 + 6)) fa_X8_244 dX8_looked_20 rfl (by decide) (ltn rfl) rfl ?_
    refine v_iload_n dX8_looked_23 rfl 0 rfl ?_
    refine v_callVi (As := [.int (nI i)]) (rest := []) lk_X8_235 (c_first_6 i (by omega)) dX8_looked_24 rfl (ltn rfl) rfl rfl (Nat.le_of_ble_eq_true rfl) (by decide) ?_
    refine v_is hbw2 ?_
    refine v_istore_n (lv2 := [(2, .int (nI bw)), (1, .int (nI i)), (0, .ref (g.1 + 0))]) dX8_looked_27 rfl (by decide) rfl ?_
    refine v_aload_n dX8_looked_28 rfl 2 rfl ?_
    refine v_iload_n dX8_looked_29 rfl 0 rfl ?_
    refine v_callVi (As := [.int (nI bw)]) (rest := []) lk_X8_74 (c_X8_isTraveller (nI bw) pp hpp hpe) dX8_looked_30 rfl (ltn rfl) rfl rfl (Nat.le_of_ble_eq_true rfl) (by decide) ?_
    refine v_ifb_eq (tgt := 61) dX8_looked_33 (by decide) (fun h3 => ?_) (fun h3 => ?_)
    · exact absurd hib h3
    · refine v_aload_n dX8_looked_36 rfl 2 rfl ?_
      refine v_get (v := .ref (g.1 + 23)) fa_X8_51 dX8_looked_37 rfl (by decide) (ltn rfl) rfl ?_
      refine v_get (v := .ref (g.1 + 29)) fa_X8_94 dX8_looked_40 rfl (by decide) (ltn rfl) rfl ?_
      refine v_iload_n dX8_looked_43 rfl 0 rfl ?_
      refine v_iaload (len := 6) (j := bw) dX8_looked_44 rfl (ltn rfl) rfl (by decide) rfl (by omega) ?_
      refine v_aload_n dX8_looked_45 rfl 2 rfl ?_
      refine v_get (v := .ref (g.1 + 1)) fa_X8_12 dX8_looked_46 rfl (by decide) (ltn rfl) rfl ?_
      refine v_get (v := .ref (g.1 + 6)) fa_X8_244 dX8_looked_49 rfl (by decide) (ltn rfl) rfl ?_
      refine v_iload_n dX8_looked_52 rfl 1 rfl ?_
      refine v_callVi (As := [.int (nI i)]) (rest := [.int (I 29 bw)]) lk_X8_238 (c_second_6 i (by omega)) dX8_looked_53 rfl (ltn rfl) rfl rfl (Nat.le_of_ble_eq_true rfl) (by decide) ?_
      refine v_icmp_eq (tgt := 61) dX8_looked_56 (by decide) (fun h5 => ?_) (fun h5 => ?_)
      · have hnp : ¬ (fun k => ¬ I 29 (tn (I 7 (3 * k))) = I 7 (3 * k + 1)) i := fun q => q (by rw [htb]; exact h5)
        refine v_inc (v := nI (i + 1)) (lv2 := [(1, .int (nI (i + 1))), (2, .int (nI bw)), (0, .ref (g.1 + 0))]) dX8_looked_61 1 rfl (nx_inc rfl) (by decide) rfl ?_
        refine v_goto (tgt := 2) dX8_looked_64 (by decide) ?_
        refine v_sub (lv2 := [(1, .int (nI (i + 1))), (0, .ref (g.1 + 0))]) [0, 2] rfl ?_
        exact ih (lt_s hinv hnp)
      · refine v_iload_n dX8_looked_59 rfl 1 rfl ?_
        exact v_iret hr dX8_looked_60 (⟨congrArg (fun z => some (Value.int z)) (frsV_hit hi (show ¬ _ = _ by rw [htb]; exact h5) hinv), ⟨_, scC_self _⟩, rfl, ⟨_, rfl⟩, rfl, rfl⟩)
theorem way_lo {kz : Int32} (h0 : ¬ kz < -1) (h1 : ¬ (14 : Int32) < kz) : -1 ≤ kz ∧ kz ≤ 14 := ⟨Int32.not_lt.mp h0, Int32.not_lt.mp h1⟩
theorem way_k {kz : Int32} (h : -1 ≤ kz ∧ kz ≤ 14) (h0 : ¬ kz < 0) : kz = nI (tn kz) ∧ tn kz < 15 := by
  have h1 := Int32.le_iff_toInt_le.mp h.2
  have h2 := Int32.le_iff_toInt_le.mp (Int32.not_lt.mp h0)
  have e1 : (14 : Int32).toInt = 14 := by decide
  have e2 : (0 : Int32).toInt = 0 := by decide
  have h3 := tn_int (x := kz) (by omega)
  exact ⟨nI_tn (by omega), by omega⟩
theorem wayV_n {st : Int32} {sz gz : Nat} {kz : Int32} (h : kz < 0) : lw st sz gz = wayV st sz gz kz := by unfold wayV; rw [ifc_t h, lw_lwn]
theorem wayV_p {st : Int32} {sz gz : Nat} {kz : Int32} (h : ¬ kz < 0) : kthV st sz gz (tn kz) = wayV st sz gz kz := by unfold wayV kthV; rw [ifc_f h]
set_option maxRecDepth 100000 in
set_option maxHeartbeats 1000000 in
theorem c_X8_way {g : Gl} {I : Ty} {L : TL} {na nt ni m : Nat} {nl : Nat → Nat} (pz : Int32) (cz : Int32) (kz : Int32) (pp : Nat) (hpp : pp ≤ 6) (hpe : I 23 1 = nI pp) (hS : okS (mgC23 I)) : Ct g yX8_way cX8_way 6 (some .int) 4 0 0 [.ref (g.1 + 0), .int pz, .int cz, .int kz] I L (RT na nt ni) (NT nl) (NB + m) (PZ na ni m nl (some (.int (ifc (inr pz pp ∧ inr cz 16 ∧ (-1 ≤ kz ∧ kz ≤ 14)) (wayV (I 29 (tn pz)) (tn (I 27 (tn pz))) (tn cz) kz) (-1)))) (I) L) := by
  refine ct_of (by decide +kernel) (Nat.le_of_ble_eq_true rfl) (fun F hnm hr => ?_)
  clear hnm
  show V g F cX8_way RX8 6 4 0 [(0, .ref (g.1 + 0)), (1, .int pz), (2, .int cz), (3, .int kz)] [] I L (RT na nt ni) (NT nl) (NB + m) 0 0
  refine v_aload_n dX8_way_0 rfl 0 rfl ?_
  refine v_iload_n dX8_way_1 rfl 1 rfl ?_
  refine v_callVi (As := [.int pz]) (rest := []) lk_X8_74 (c_X8_isTraveller pz pp hpp hpe) dX8_way_2 rfl (ltn rfl) rfl rfl (Nat.le_of_ble_eq_true rfl) (by decide) ?_
  refine v_ifb_eq (tgt := 26) dX8_way_5 (by decide) (fun h1 => ?_) (fun h1 => ?_)
  · -- not inr pz pp
    refine v_iconst (v := (-1)) dX8_way_26 (by decide) ?_
    exact v_iret hr dX8_way_27 (⟨congrArg (fun z => some (Value.int z)) (by first | rfl | (simp only [bq, ifc_T, ifc_F, inr_m1, and_true, true_and, and_false, false_and, or_true, true_or, or_false, false_or, not_true_eq_false, not_false_eq_true, and_self, or_self, h1]; done) | (simp [bq, ifc_T, ifc_F, inr_m1, h1]; done) | ((try simp only [bq]); repeat (first | rfl | (refine eq_t ?_ ?_; focus (first | omega | assumption | (simp [inr_m1, h1]; done) | (simp [inr_m1, h1]; omega) | (clear hr; (try clear hkn); simp_all; done))) | (refine eq_f ?_ ?_; focus (first | omega | assumption | (simp [inr_m1, h1]; done) | (simp [inr_m1, h1]; omega) | (clear hr; (try clear hkn); simp_all; done))) | (exfalso; clear hr; (try clear hkn); simp_all; done)))), ⟨_, scC_self _⟩, rfl, ⟨_, rfl⟩, rfl, rfl⟩)
  · -- inr pz pp
    obtain ⟨P2, rfl, l3, t4, u5⟩ := inr_ex h1 (by omega)
    obtain ⟨sz, hsz, hes⟩ := hS P2 (by omega)
    have hes : I 27 P2 = nI sz := hes
    have htz : tn (nI sz) = sz := tn_nI (by omega)
    refine v_iload_n dX8_way_8 rfl 2 rfl ?_
    refine v_callSi (As := [.int cz]) (rest := []) lk_X8_62 (c_X8_isCell cz) dX8_way_9 rfl rfl (Nat.le_of_ble_eq_true rfl) (by decide) ?_
    refine v_ifb_eq (tgt := 26) dX8_way_12 (by decide) (fun h6 => ?_) (fun h6 => ?_)
    · -- not inr cz 16
      refine v_iconst (v := (-1)) dX8_way_26 (by decide) ?_
      exact v_iret hr dX8_way_27 (⟨congrArg (fun z => some (Value.int z)) (by first | rfl | (simp only [bq, ifc_T, ifc_F, inr_m1, and_true, true_and, and_false, false_and, or_true, true_or, or_false, false_or, not_true_eq_false, not_false_eq_true, and_self, or_self, h1, t4, u5, l3, hes, htz, h6]; done) | (simp [bq, ifc_T, ifc_F, inr_m1, h1, t4, u5, l3, hes, htz, h6]; done) | ((try simp only [bq]); repeat (first | rfl | (refine eq_t ?_ ?_; focus (first | omega | assumption | (simp [inr_m1, h1, t4, u5, l3, hes, htz, h6]; done) | (simp [inr_m1, h1, t4, u5, l3, hes, htz, h6]; omega) | (simp only [u5]; omega) | (clear hr; (try clear hkn); simp_all; done))) | (refine eq_f ?_ ?_; focus (first | omega | assumption | (simp [inr_m1, h1, t4, u5, l3, hes, htz, h6]; done) | (simp [inr_m1, h1, t4, u5, l3, hes, htz, h6]; omega) | (simp only [u5]; omega) | (clear hr; (try clear hkn); simp_all; done))) | (simp only [t4]; done) | (exfalso; clear hr; (try clear hkn); simp_all; done)))), ⟨_, scC_self _⟩, rfl, ⟨_, rfl⟩, rfl, rfl⟩)
    · -- inr cz 16
      obtain ⟨P7, rfl, l8, t9, u10⟩ := inr_ex h6 (by omega)
      refine v_iload_n dX8_way_15 rfl 3 rfl ?_
      refine v_iconst (v := (-1)) dX8_way_16 (by decide) ?_
      refine v_icmp_lt (tgt := 26) dX8_way_17 (by decide) (fun h12 => ?_) (fun h12 => ?_)
      · have hnk : ¬ (-1 ≤ kz ∧ kz ≤ 14) := fun q => absurd h12 (Int32.not_lt.mpr q.1)
        refine v_iconst (v := (-1)) dX8_way_26 (by decide) ?_
        exact v_iret hr dX8_way_27 (⟨congrArg (fun z => some (Value.int z)) (by first | rfl | (simp only [bq, ifc_T, ifc_F, inr_m1, and_true, true_and, and_false, false_and, or_true, true_or, or_false, false_or, not_true_eq_false, not_false_eq_true, and_self, or_self, h1, t4, u5, l3, hes, htz, h6, t9, u10, l8, hnk]; done) | (simp [bq, ifc_T, ifc_F, inr_m1, h1, t4, u5, l3, hes, htz, h6, t9, u10, l8, hnk]; done) | ((try simp only [bq]); repeat (first | rfl | (refine eq_t ?_ ?_; focus (first | omega | assumption | (simp [inr_m1, h1, t4, u5, l3, hes, htz, h6, t9, u10, l8, hnk]; done) | (simp [inr_m1, h1, t4, u5, l3, hes, htz, h6, t9, u10, l8, hnk]; omega) | (simp only [u5, u10]; omega) | (clear hr; (try clear hkn); simp_all; done))) | (refine eq_f ?_ ?_; focus (first | omega | assumption | (simp [inr_m1, h1, t4, u5, l3, hes, htz, h6, t9, u10, l8, hnk]; done) | (simp [inr_m1, h1, t4, u5, l3, hes, htz, h6, t9, u10, l8, hnk]; omega) | (simp only [u5, u10]; omega) | (clear hr; (try clear hkn); simp_all; done))) | (simp only [t4, t9]; done) | (exfalso; clear hr; (try clear hkn); simp_all; done)))), ⟨_, scC_self _⟩, rfl, ⟨_, rfl⟩, rfl, rfl⟩)
      · refine v_iload_n dX8_way_20 rfl 3 rfl ?_
        refine v_bipush (v := 14) dX8_way_21 (by decide) ?_
        refine v_icmp_le (tgt := 28) dX8_way_23 (by decide) (fun h14 => ?_) (fun h14 => ?_)
        · have hk := way_lo h12 (Int32.not_lt.mpr h14)
          refine v_aload_n dX8_way_28 rfl 0 rfl ?_
          refine v_get (v := .ref (g.1 + 23)) fa_X8_51 dX8_way_29 rfl (by decide) (ltn rfl) rfl ?_
          refine v_get (v := .ref (g.1 + 27)) fa_X8_84 dX8_way_32 rfl (by decide) (ltn rfl) rfl ?_
          refine v_iload_n dX8_way_35 rfl 1 rfl ?_
          refine v_iaload (len := 6) (j := P2) dX8_way_36 rfl (ltn rfl) rfl (by decide) rfl (by omega) ?_
          refine v_is hes ?_
          refine v_istore (lv2 := [(4, .int (nI sz)), (0, .ref (g.1 + 0)), (1, .int (nI P2)), (2, .int (nI P7)), (3, .int kz)]) dX8_way_37 (by decide) rfl ?_
          refine v_aload_n dX8_way_39 rfl 1 rfl ?_
          refine v_get (v := .ref (g.1 + 23)) fa_X8_51 dX8_way_40 rfl (by decide) (ltn rfl) rfl ?_
          refine v_get (v := .ref (g.1 + 29)) fa_X8_94 dX8_way_43 rfl (by decide) (ltn rfl) rfl ?_
          refine v_iload_n dX8_way_46 rfl 2 rfl ?_
          refine v_iaload (len := 6) (j := P2) dX8_way_47 rfl (ltn rfl) rfl (by decide) rfl (by omega) ?_
          refine v_istore (lv2 := [(5, .int (I 29 P2)), (4, .int (nI sz)), (0, .ref (g.1 + 0)), (1, .int (nI P2)), (2, .int (nI P7)), (3, .int kz)]) dX8_way_48 (by decide) rfl ?_
          refine v_iload_n dX8_way_50 rfl 5 rfl ?_
          refine v_if_ge (tgt := 65) dX8_way_51 (by decide) (fun h16 => ?_) (fun h16 => ?_)
          · have hk0 : ¬ kz < 0 := Int32.not_lt.mpr h16
            obtain ⟨hke, hk15⟩ := way_k hk hk0
            refine v_iload dX8_way_65 1 rfl ?_
            refine v_iload_n dX8_way_67 rfl 4 rfl ?_
            refine v_iload dX8_way_68 0 rfl ?_
            refine v_iload_n dX8_way_70 rfl 5 rfl ?_
            refine v_st (st2 := [.int (nI (tn kz)), .int (I 29 P2), .int (nI P7), .int (nI sz)]) (by rw [← hke]) ?_
            refine v_callSi (As := [.int (nI sz), .int (nI P7), .int (I 29 P2), .int (nI (tn kz))]) (rest := []) lk_X8_181 (c_X7_kthCell sz P7 (I 29 P2) (tn kz) (by omega) (by omega) (by omega)) dX8_way_71 rfl rfl (Nat.le_of_ble_eq_true rfl) (by decide) ?_
            exact v_iret hr dX8_way_74 (⟨congrArg (fun z => some (Value.int z)) (by rw [wayV_p hk0]; first | rfl | (simp only [bq, ifc_T, ifc_F, inr_m1, and_true, true_and, and_false, false_and, or_true, true_or, or_false, false_or, not_true_eq_false, not_false_eq_true, and_self, or_self, h1, t4, u5, l3, hes, htz, h6, t9, u10, l8, hk]; done) | (simp [bq, ifc_T, ifc_F, inr_m1, h1, t4, u5, l3, hes, htz, h6, t9, u10, l8, hk]; done) | ((try simp only [bq]); repeat (first | rfl | (refine eq_t ?_ ?_; focus (first | omega | assumption | (simp [inr_m1, h1, t4, u5, l3, hes, htz, h6, t9, u10, l8, hk]; done) | (simp [inr_m1, h1, t4, u5, l3, hes, htz, h6, t9, u10, l8, hk]; omega) | (simp only [u5, u10]; omega) | (clear hr; (try clear hkn); simp_all; done))) | (refine eq_f ?_ ?_; focus (first | omega | assumption | (simp [inr_m1, h1, t4, u5, l3, hes, htz, h6, t9, u10, l8, hk]; done) | (simp [inr_m1, h1, t4, u5, l3, hes, htz, h6, t9, u10, l8, hk]; omega) | (simp only [u5, u10]; omega) | (clear hr; (try clear hkn); simp_all; done))) | (simp only [t4, t9]; done) | (exfalso; clear hr; (try clear hkn); simp_all; done)))), ⟨_, scC_self _⟩, rfl, ⟨_, rfl⟩, rfl, rfl⟩)
          · refine v_iload dX8_way_54 1 rfl ?_
            refine v_iload_n dX8_way_56 rfl 4 rfl ?_
            refine v_iload dX8_way_57 0 rfl ?_
            refine v_callSi (As := [.int (nI sz), .int (nI P7), .int (I 29 P2)]) (rest := []) lk_X8_177 (c_X7_length sz P7 (I 29 P2) (by omega) (by omega)) dX8_way_59 rfl rfl (Nat.le_of_ble_eq_true rfl) (by decide) ?_
            refine v_goto (tgt := 74) dX8_way_62 (by decide) ?_
            exact v_iret hr dX8_way_74 (⟨congrArg (fun z => some (Value.int z)) (by rw [wayV_n (Int32.not_le.mp h16)]; first | rfl | (simp only [bq, ifc_T, ifc_F, inr_m1, and_true, true_and, and_false, false_and, or_true, true_or, or_false, false_or, not_true_eq_false, not_false_eq_true, and_self, or_self, h1, t4, u5, l3, hes, htz, h6, t9, u10, l8, hk]; done) | (simp [bq, ifc_T, ifc_F, inr_m1, h1, t4, u5, l3, hes, htz, h6, t9, u10, l8, hk]; done) | ((try simp only [bq]); repeat (first | rfl | (refine eq_t ?_ ?_; focus (first | omega | assumption | (simp [inr_m1, h1, t4, u5, l3, hes, htz, h6, t9, u10, l8, hk]; done) | (simp [inr_m1, h1, t4, u5, l3, hes, htz, h6, t9, u10, l8, hk]; omega) | (simp only [u5, u10]; omega) | (clear hr; (try clear hkn); simp_all; done))) | (refine eq_f ?_ ?_; focus (first | omega | assumption | (simp [inr_m1, h1, t4, u5, l3, hes, htz, h6, t9, u10, l8, hk]; done) | (simp [inr_m1, h1, t4, u5, l3, hes, htz, h6, t9, u10, l8, hk]; omega) | (simp only [u5, u10]; omega) | (clear hr; (try clear hkn); simp_all; done))) | (simp only [t4, t9]; done) | (exfalso; clear hr; (try clear hkn); simp_all; done)))), ⟨_, scC_self _⟩, rfl, ⟨_, rfl⟩, rfl, rfl⟩)
        · have hnk : ¬ (-1 ≤ kz ∧ kz ≤ 14) := fun q => h14 q.2
          refine v_iconst (v := (-1)) dX8_way_26 (by decide) ?_
          exact v_iret hr dX8_way_27 (⟨congrArg (fun z => some (Value.int z)) (by first | rfl | (simp only [bq, ifc_T, ifc_F, inr_m1, and_true, true_and, and_false, false_and, or_true, true_or, or_false, false_or, not_true_eq_false, not_false_eq_true, and_self, or_self, h1, t4, u5, l3, hes, htz, h6, t9, u10, l8, hnk]; done) | (simp [bq, ifc_T, ifc_F, inr_m1, h1, t4, u5, l3, hes, htz, h6, t9, u10, l8, hnk]; done) | ((try simp only [bq]); repeat (first | rfl | (refine eq_t ?_ ?_; focus (first | omega | assumption | (simp [inr_m1, h1, t4, u5, l3, hes, htz, h6, t9, u10, l8, hnk]; done) | (simp [inr_m1, h1, t4, u5, l3, hes, htz, h6, t9, u10, l8, hnk]; omega) | (simp only [u5, u10]; omega) | (clear hr; (try clear hkn); simp_all; done))) | (refine eq_f ?_ ?_; focus (first | omega | assumption | (simp [inr_m1, h1, t4, u5, l3, hes, htz, h6, t9, u10, l8, hnk]; done) | (simp [inr_m1, h1, t4, u5, l3, hes, htz, h6, t9, u10, l8, hnk]; omega) | (simp only [u5, u10]; omega) | (clear hr; (try clear hkn); simp_all; done))) | (simp only [t4, t9]; done) | (exfalso; clear hr; (try clear hkn); simp_all; done)))), ⟨_, scC_self _⟩, rfl, ⟨_, rfl⟩, rfl, rfl⟩)
