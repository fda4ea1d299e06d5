theorem le_nge {x : Int32} {k : Nat} (hk : k + 1 < 2 ^ 31) (h : ¬ nI (k + 1) ≤ x) : x ≤ nI k := by
  have h1 := Int32.lt_iff_toInt_lt.mp (Int32.not_le.mp h)
  rw [nI_toInt hk] at h1
  rw [Int32.le_iff_toInt_le, nI_toInt (by omega)]; omega
def appI (I : Ty) (o r kn : Nat) (a b c : Int32) : Ty := wr (wr (wr (wr I r (3 * kn) a) r (3 * kn + 1) b) r (3 * kn + 2) c) o 0 (nI (kn + 1))
def plnC (pp : Nat) (wz nz : Int32) : Prop := wz = 0 ∨ ((wz = 1 ∨ wz = 3) ∧ inr nz pp) ∨ (wz = 2 ∧ inr (nz / 10) pp ∧ inr (nz - nz / 10 * 10) pp)
theorem bits_eq {P Q : Prop} (h : P ↔ Q) : bq P = bq Q := bq_congr h
set_option maxRecDepth 100000 in
set_option maxHeartbeats 1000000 in
theorem c_X8_told {g : Gl} {I : Ty} {L : TL} {na nt ni m : Nat} {nl : Nat → Nat} (wz : Int32) (pp : Nat) (hpp : pp ≤ 6) (hpe : I 23 1 = nI pp) (hxm : 2 * na ≤ m) : Ct g yX8_told cX8_told 2 (some .int) 1 0 0 [.ref (g.1 + 0), .int wz] I L (RT na nt ni) (NT nl) (NB + m) (PZ na ni m nl (some (.int (ifc (10 ≤ wz ∧ wz ≤ 25) (I 24 (tn wz - 10)) (ifc (wz = 0) (I 23 9) (ifc (wz = 1) (I (ncell na) 0) (ifc (wz = 2) (arrF (I 27) (I 28) pp) (ifc (wz = 3) (sumF (I 30) pp) (-1)))))))) (I) L) := by
  refine ct_of (by decide +kernel) (Nat.le_of_ble_eq_true rfl) (fun F hnm hr => ?_)
  clear hnm
  show V g F cX8_told RX8 2 1 0 [(0, .ref (g.1 + 0)), (1, .int wz)] [] I L (RT na nt ni) (NT nl) (NB + m) 0 0
  refine v_iload_n dX8_told_0 rfl 1 rfl ?_
  refine v_bipush (v := 10) dX8_told_1 (by decide) ?_
  refine v_icmp_lt (tgt := 25) dX8_told_3 (by decide) (fun h2 => ?_) (fun h2 => ?_)
  · have hnC : ¬ (10 ≤ wz ∧ wz ≤ 25) := fun q => absurd h2 (Int32.not_lt.mpr q.1)
    refine v_iload_n dX8_told_25 rfl 1 rfl ?_
    by_cases k3_0 : wz = 0
    · refine v_is k3_0 ?_
      refine v_tabIn (off := 30) (tgt := 56) dX8_told_26 (by decide) (by decide) (by decide) (by decide) ?_
      refine v_aload_n dX8_told_56 rfl 0 rfl ?_
      refine v_get (v := .ref (g.1 + 23)) fa_X8_51 dX8_told_57 rfl (by decide) (ltn rfl) rfl ?_
      refine v_get (v := .int (I 23 9)) fa_X8_152 dX8_told_60 rfl (by decide) (ltn rfl) rfl ?_
      exact v_iret hr dX8_told_63 (⟨congrArg (fun z => some (Value.int z)) (by first | rfl | (simp only [bq, ifc_T, ifc_F, inr_m1, and_true, true_and, and_false, false_and, or_true, true_or, or_false, false_or, not_true_eq_false, not_false_eq_true, and_self, or_self, hnC, k3_0]; done) | (simp [bq, ifc_T, ifc_F, inr_m1, hnC, k3_0]; done) | ((try simp only [bq]); repeat (first | rfl | (refine eq_t ?_ ?_; focus (first | omega | assumption | (simp [inr_m1, hnC, k3_0]; done) | (simp [inr_m1, hnC, k3_0]; omega) | (clear hr; (try clear hkn); simp_all; done))) | (refine eq_f ?_ ?_; focus (first | omega | assumption | (simp [inr_m1, hnC, k3_0]; done) | (simp [inr_m1, hnC, k3_0]; omega) | (clear hr; (try clear hkn); simp_all; done))) | (exfalso; clear hr; (try clear hkn); simp_all; done)))), ⟨_, scC_self _⟩, rfl, ⟨_, rfl⟩, rfl, rfl⟩)
    by_cases k3_1 : wz = 1
    · refine v_is k3_1 ?_
      refine v_tabIn (off := 38) (tgt := 64) dX8_told_26 (by decide) (by decide) (by decide) (by decide) ?_
      refine v_aload_n dX8_told_64 rfl 0 rfl ?_
      refine v_get (v := .ref (g.1 + 23)) fa_X8_51 dX8_told_65 rfl (by decide) (ltn rfl) rfl ?_
      refine v_get (v := .ref (g.1 + (ncell na))) fa_X8_148 dX8_told_68 rfl (by decide) (ltn rfl) rfl ?_
      refine v_get (v := .int (I (ncell na) 0)) fa_X8_155 dX8_told_71 (kd_nc na) (by decide) (lt_nc hxm) rfl ?_
      exact v_iret hr dX8_told_74 (⟨congrArg (fun z => some (Value.int z)) (by first | rfl | (simp only [bq, ifc_T, ifc_F, inr_m1, and_true, true_and, and_false, false_and, or_true, true_or, or_false, false_or, not_true_eq_false, not_false_eq_true, and_self, or_self, hnC, k3_1]; done) | (simp [bq, ifc_T, ifc_F, inr_m1, hnC, k3_1]; done) | ((try simp only [bq]); repeat (first | rfl | (refine eq_t ?_ ?_; focus (first | omega | assumption | (simp [inr_m1, hnC, k3_1]; done) | (simp [inr_m1, hnC, k3_1]; omega) | (clear hr; (try clear hkn); simp_all; done))) | (refine eq_f ?_ ?_; focus (first | omega | assumption | (simp [inr_m1, hnC, k3_1]; done) | (simp [inr_m1, hnC, k3_1]; omega) | (clear hr; (try clear hkn); simp_all; done))) | (exfalso; clear hr; (try clear hkn); simp_all; done)))), ⟨_, scC_self _⟩, rfl, ⟨_, rfl⟩, rfl, rfl⟩)
    by_cases k3_2 : wz = 2
    · refine v_is k3_2 ?_
      refine v_tabIn (off := 49) (tgt := 75) dX8_told_26 (by decide) (by decide) (by decide) (by decide) ?_
      refine v_aload_n dX8_told_75 rfl 0 rfl ?_
      refine v_get (v := .ref (g.1 + 23)) fa_X8_51 dX8_told_76 rfl (by decide) (ltn rfl) rfl ?_
      refine v_callVi (As := []) (rest := []) lk_X8_158 (c_atGoals_23 (I := I) pp hpp hpe) dX8_told_79 rfl (ltn rfl) rfl rfl (Nat.le_of_ble_eq_true rfl) (by decide) ?_
      exact v_iret hr dX8_told_82 (⟨congrArg (fun z => some (Value.int z)) (by first | rfl | (simp only [bq, ifc_T, ifc_F, inr_m1, and_true, true_and, and_false, false_and, or_true, true_or, or_false, false_or, not_true_eq_false, not_false_eq_true, and_self, or_self, hnC, k3_2]; done) | (simp [bq, ifc_T, ifc_F, inr_m1, hnC, k3_2]; done) | ((try simp only [bq]); repeat (first | rfl | (refine eq_t ?_ ?_; focus (first | omega | assumption | (simp [inr_m1, hnC, k3_2]; done) | (simp [inr_m1, hnC, k3_2]; omega) | (clear hr; (try clear hkn); simp_all; done))) | (refine eq_f ?_ ?_; focus (first | omega | assumption | (simp [inr_m1, hnC, k3_2]; done) | (simp [inr_m1, hnC, k3_2]; omega) | (clear hr; (try clear hkn); simp_all; done))) | (exfalso; clear hr; (try clear hkn); simp_all; done)))), ⟨_, scC_self _⟩, rfl, ⟨_, rfl⟩, rfl, rfl⟩)
    by_cases k3_3 : wz = 3
    · refine v_is k3_3 ?_
      refine v_tabIn (off := 57) (tgt := 83) dX8_told_26 (by decide) (by decide) (by decide) (by decide) ?_
      refine v_aload_n dX8_told_83 rfl 0 rfl ?_
      refine v_get (v := .ref (g.1 + 23)) fa_X8_51 dX8_told_84 rfl (by decide) (ltn rfl) rfl ?_
      refine v_callVi (As := []) (rest := []) lk_X8_162 (c_allNoes_23 (I := I) pp hpp hpe) dX8_told_87 rfl (ltn rfl) rfl rfl (Nat.le_of_ble_eq_true rfl) (by decide) ?_
      exact v_iret hr dX8_told_90 (⟨congrArg (fun z => some (Value.int z)) (by first | rfl | (simp only [bq, ifc_T, ifc_F, inr_m1, and_true, true_and, and_false, false_and, or_true, true_or, or_false, false_or, not_true_eq_false, not_false_eq_true, and_self, or_self, hnC, k3_3]; done) | (simp [bq, ifc_T, ifc_F, inr_m1, hnC, k3_3]; done) | ((try simp only [bq]); repeat (first | rfl | (refine eq_t ?_ ?_; focus (first | omega | assumption | (simp [inr_m1, hnC, k3_3]; done) | (simp [inr_m1, hnC, k3_3]; omega) | (clear hr; (try clear hkn); simp_all; done))) | (refine eq_f ?_ ?_; focus (first | omega | assumption | (simp [inr_m1, hnC, k3_3]; done) | (simp [inr_m1, hnC, k3_3]; omega) | (clear hr; (try clear hkn); simp_all; done))) | (exfalso; clear hr; (try clear hkn); simp_all; done)))), ⟨_, scC_self _⟩, rfl, ⟨_, rfl⟩, rfl, rfl⟩)
    have t4 : wz.toInt < 0 ∨ 3 < wz.toInt := by
      rcases sw_out wz (0) (3) with h | h | ⟨ha, hb⟩
      · exact Or.inl h
      · exact Or.inr h
      · exfalso
        have hz : ∀ z : Int, 0 ≤ z → z ≤ 3 → z = 0 ∨ z = 1 ∨ z = 2 ∨ z = 3 := by omega
        rcases hz _ ha hb with e | e | e | e
        · exact absurd (sw_eq (k := 0) e (by decide)) k3_0
        · exact absurd (sw_eq (k := 1) e (by decide)) k3_1
        · exact absurd (sw_eq (k := 2) e (by decide)) k3_2
        · exact absurd (sw_eq (k := 3) e (by decide)) k3_3
    refine v_tabOut (tgt := 91) dX8_told_26 t4 (by decide) ?_
    refine v_iconst (v := (-1)) dX8_told_91 (by decide) ?_
    exact v_iret hr dX8_told_92 (⟨congrArg (fun z => some (Value.int z)) (by first | rfl | (simp only [bq, ifc_T, ifc_F, inr_m1, and_true, true_and, and_false, false_and, or_true, true_or, or_false, false_or, not_true_eq_false, not_false_eq_true, and_self, or_self, hnC, k3_0, k3_1, k3_2, k3_3]; done) | (simp [bq, ifc_T, ifc_F, inr_m1, hnC, k3_0, k3_1, k3_2, k3_3]; done) | ((try simp only [bq]); repeat (first | rfl | (refine eq_t ?_ ?_; focus (first | omega | assumption | (simp [inr_m1, hnC, k3_0, k3_1, k3_2, k3_3]; done) | (simp [inr_m1, hnC, k3_0, k3_1, k3_2, k3_3]; omega) | (clear hr; (try clear hkn); simp_all; done))) | (refine eq_f ?_ ?_; focus (first | omega | assumption | (simp [inr_m1, hnC, k3_0, k3_1, k3_2, k3_3]; done) | (simp [inr_m1, hnC, k3_0, k3_1, k3_2, k3_3]; omega) | (clear hr; (try clear hkn); simp_all; done))) | (exfalso; clear hr; (try clear hkn); simp_all; done)))), ⟨_, scC_self _⟩, rfl, ⟨_, rfl⟩, rfl, rfl⟩)
  · refine v_iload_n dX8_told_6 rfl 1 rfl ?_
    refine v_bipush (v := 26) dX8_told_7 (by decide) ?_
    refine v_icmp_ge (tgt := 25) dX8_told_9 (by decide) (fun h6 => ?_) (fun h6 => ?_)
    · have hnC : ¬ (10 ≤ wz ∧ wz ≤ 25) := fun q => absurd (Int32.le_trans h6 q.2) (by decide)
      refine v_iload_n dX8_told_25 rfl 1 rfl ?_
      by_cases k7_0 : wz = 0
      · refine v_is k7_0 ?_
        refine v_tabIn (off := 30) (tgt := 56) dX8_told_26 (by decide) (by decide) (by decide) (by decide) ?_
        refine v_aload_n dX8_told_56 rfl 0 rfl ?_
        refine v_get (v := .ref (g.1 + 23)) fa_X8_51 dX8_told_57 rfl (by decide) (ltn rfl) rfl ?_
        refine v_get (v := .int (I 23 9)) fa_X8_152 dX8_told_60 rfl (by decide) (ltn rfl) rfl ?_
        exact v_iret hr dX8_told_63 (⟨congrArg (fun z => some (Value.int z)) (by first | rfl | (simp only [bq, ifc_T, ifc_F, inr_m1, and_true, true_and, and_false, false_and, or_true, true_or, or_false, false_or, not_true_eq_false, not_false_eq_true, and_self, or_self, hnC, k7_0]; done) | (simp [bq, ifc_T, ifc_F, inr_m1, hnC, k7_0]; done) | ((try simp only [bq]); repeat (first | rfl | (refine eq_t ?_ ?_; focus (first | omega | assumption | (simp [inr_m1, hnC, k7_0]; done) | (simp [inr_m1, hnC, k7_0]; omega) | (clear hr; (try clear hkn); simp_all; done))) | (refine eq_f ?_ ?_; focus (first | omega | assumption | (simp [inr_m1, hnC, k7_0]; done) | (simp [inr_m1, hnC, k7_0]; omega) | (clear hr; (try clear hkn); simp_all; done))) | (exfalso; clear hr; (try clear hkn); simp_all; done)))), ⟨_, scC_self _⟩, rfl, ⟨_, rfl⟩, rfl, rfl⟩)
      by_cases k7_1 : wz = 1
      · refine v_is k7_1 ?_
        refine v_tabIn (off := 38) (tgt := 64) dX8_told_26 (by decide) (by decide) (by decide) (by decide) ?_
        refine v_aload_n dX8_told_64 rfl 0 rfl ?_
        refine v_get (v := .ref (g.1 + 23)) fa_X8_51 dX8_told_65 rfl (by decide) (ltn rfl) rfl ?_
        refine v_get (v := .ref (g.1 + (ncell na))) fa_X8_148 dX8_told_68 rfl (by decide) (ltn rfl) rfl ?_
        refine v_get (v := .int (I (ncell na) 0)) fa_X8_155 dX8_told_71 (kd_nc na) (by decide) (lt_nc hxm) rfl ?_
        exact v_iret hr dX8_told_74 (⟨congrArg (fun z => some (Value.int z)) (by first | rfl | (simp only [bq, ifc_T, ifc_F, inr_m1, and_true, true_and, and_false, false_and, or_true, true_or, or_false, false_or, not_true_eq_false, not_false_eq_true, and_self, or_self, hnC, k7_1]; done) | (simp [bq, ifc_T, ifc_F, inr_m1, hnC, k7_1]; done) | ((try simp only [bq]); repeat (first | rfl | (refine eq_t ?_ ?_; focus (first | omega | assumption | (simp [inr_m1, hnC, k7_1]; done) | (simp [inr_m1, hnC, k7_1]; omega) | (clear hr; (try clear hkn); simp_all; done))) | (refine eq_f ?_ ?_; focus (first | omega | assumption | (simp [inr_m1, hnC, k7_1]; done) | (simp [inr_m1, hnC, k7_1]; omega) | (clear hr; (try clear hkn); simp_all; done))) | (exfalso; clear hr; (try clear hkn); simp_all; done)))), ⟨_, scC_self _⟩, rfl, ⟨_, rfl⟩, rfl, rfl⟩)
      by_cases k7_2 : wz = 2
      · refine v_is k7_2 ?_
        refine v_tabIn (off := 49) (tgt := 75) dX8_told_26 (by decide) (by decide) (by decide) (by decide) ?_
        refine v_aload_n dX8_told_75 rfl 0 rfl ?_
        refine v_get (v := .ref (g.1 + 23)) fa_X8_51 dX8_told_76 rfl (by decide) (ltn rfl) rfl ?_
        refine v_callVi (As := []) (rest := []) lk_X8_158 (c_atGoals_23 (I := I) pp hpp hpe) dX8_told_79 rfl (ltn rfl) rfl rfl (Nat.le_of_ble_eq_true rfl) (by decide) ?_
        exact v_iret hr dX8_told_82 (⟨congrArg (fun z => some (Value.int z)) (by first | rfl | (simp only [bq, ifc_T, ifc_F, inr_m1, and_true, true_and, and_false, false_and, or_true, true_or, or_false, false_or, not_true_eq_false, not_false_eq_true, and_self, or_self, hnC, k7_2]; done) | (simp [bq, ifc_T, ifc_F, inr_m1, hnC, k7_2]; done) | ((try simp only [bq]); repeat (first | rfl | (refine eq_t ?_ ?_; focus (first | omega | assumption | (simp [inr_m1, hnC, k7_2]; done) | (simp [inr_m1, hnC, k7_2]; omega) | (clear hr; (try clear hkn); simp_all; done))) | (refine eq_f ?_ ?_; focus (first | omega | assumption | (simp [inr_m1, hnC, k7_2]; done) | (simp [inr_m1, hnC, k7_2]; omega) | (clear hr; (try clear hkn); simp_all; done))) | (exfalso; clear hr; (try clear hkn); simp_all; done)))), ⟨_, scC_self _⟩, rfl, ⟨_, rfl⟩, rfl, rfl⟩)
      by_cases k7_3 : wz = 3
      · refine v_is k7_3 ?_
        refine v_tabIn (off := 57) (tgt := 83) dX8_told_26 (by decide) (by decide) (by decide) (by decide) ?_
        refine v_aload_n dX8_told_83 rfl 0 rfl ?_
        refine v_get (v := .ref (g.1 + 23)) fa_X8_51 dX8_told_84 rfl (by decide) (ltn rfl) rfl ?_
        refine v_callVi (As := []) (rest := []) lk_X8_162 (c_allNoes_23 (I := I) pp hpp hpe) dX8_told_87 rfl (ltn rfl) rfl rfl (Nat.le_of_ble_eq_true rfl) (by decide) ?_
        exact v_iret hr dX8_told_90 (⟨congrArg (fun z => some (Value.int z)) (by first | rfl | (simp only [bq, ifc_T, ifc_F, inr_m1, and_true, true_and, and_false, false_and, or_true, true_or, or_false, false_or, not_true_eq_false, not_false_eq_true, and_self, or_self, hnC, k7_3]; done) | (simp [bq, ifc_T, ifc_F, inr_m1, hnC, k7_3]; done) | ((try simp only [bq]); repeat (first | rfl | (refine eq_t ?_ ?_; focus (first | omega | assumption | (simp [inr_m1, hnC, k7_3]; done) | (simp [inr_m1, hnC, k7_3]; omega) | (clear hr; (try clear hkn); simp_all; done))) | (refine eq_f ?_ ?_; focus (first | omega | assumption | (simp [inr_m1, hnC, k7_3]; done) | (simp [inr_m1, hnC, k7_3]; omega) | (clear hr; (try clear hkn); simp_all; done))) | (exfalso; clear hr; (try clear hkn); simp_all; done)))), ⟨_, scC_self _⟩, rfl, ⟨_, rfl⟩, rfl, rfl⟩)
      have t8 : wz.toInt < 0 ∨ 3 < wz.toInt := by
        rcases sw_out wz (0) (3) with h | h | ⟨ha, hb⟩
        · exact Or.inl h
        · exact Or.inr h
        · exfalso
          have hz : ∀ z : Int, 0 ≤ z → z ≤ 3 → z = 0 ∨ z = 1 ∨ z = 2 ∨ z = 3 := by omega
          rcases hz _ ha hb with e | e | e | e
          · exact absurd (sw_eq (k := 0) e (by decide)) k7_0
          · exact absurd (sw_eq (k := 1) e (by decide)) k7_1
          · exact absurd (sw_eq (k := 2) e (by decide)) k7_2
          · exact absurd (sw_eq (k := 3) e (by decide)) k7_3
      refine v_tabOut (tgt := 91) dX8_told_26 t8 (by decide) ?_
      refine v_iconst (v := (-1)) dX8_told_91 (by decide) ?_
      exact v_iret hr dX8_told_92 (⟨congrArg (fun z => some (Value.int z)) (by first | rfl | (simp only [bq, ifc_T, ifc_F, inr_m1, and_true, true_and, and_false, false_and, or_true, true_or, or_false, false_or, not_true_eq_false, not_false_eq_true, and_self, or_self, hnC, k7_0, k7_1, k7_2, k7_3]; done) | (simp [bq, ifc_T, ifc_F, inr_m1, hnC, k7_0, k7_1, k7_2, k7_3]; done) | ((try simp only [bq]); repeat (first | rfl | (refine eq_t ?_ ?_; focus (first | omega | assumption | (simp [inr_m1, hnC, k7_0, k7_1, k7_2, k7_3]; done) | (simp [inr_m1, hnC, k7_0, k7_1, k7_2, k7_3]; omega) | (clear hr; (try clear hkn); simp_all; done))) | (refine eq_f ?_ ?_; focus (first | omega | assumption | (simp [inr_m1, hnC, k7_0, k7_1, k7_2, k7_3]; done) | (simp [inr_m1, hnC, k7_0, k7_1, k7_2, k7_3]; omega) | (clear hr; (try clear hkn); simp_all; done))) | (exfalso; clear hr; (try clear hkn); simp_all; done)))), ⟨_, scC_self _⟩, rfl, ⟨_, rfl⟩, rfl, rfl⟩)
    · have hC : 10 ≤ wz ∧ wz ≤ 25 := ⟨Int32.not_lt.mp h2, le_nge (k := 25) (by decide) h6⟩
      obtain ⟨hwe, hw1, hw2⟩ := rng (a := 10) (b := 25) hC rfl rfl (by decide) (by decide)
      refine v_aload_n dX8_told_12 rfl 0 rfl ?_
      refine v_get (v := .ref (g.1 + 23)) fa_X8_51 dX8_told_13 rfl (by decide) (ltn rfl) rfl ?_
      refine v_get (v := .ref (g.1 + 24)) fa_X8_122 dX8_told_16 rfl (by decide) (ltn rfl) rfl ?_
      refine v_iload_n dX8_told_19 rfl 1 rfl ?_
      refine v_bipush (v := 10) dX8_told_20 (by decide) ?_
      refine v_isub dX8_told_22 ?_
      refine v_is (nx_sub (a := (tn wz)) (b := 10) hwe rfl (by omega)) ?_
      refine v_iaload (len := 16) (j := ((tn wz) - 10)) dX8_told_23 rfl (ltn rfl) rfl (by decide) rfl (by omega) ?_
      exact v_iret hr dX8_told_24 (⟨congrArg (fun z => some (Value.int z)) (by first | rfl | (simp only [bq, ifc_T, ifc_F, inr_m1, and_true, true_and, and_false, false_and, or_true, true_or, or_false, false_or, not_true_eq_false, not_false_eq_true, and_self, or_self, hC]; done) | (simp [bq, ifc_T, ifc_F, inr_m1, hC]; done) | ((try simp only [bq]); repeat (first | rfl | (refine eq_t ?_ ?_; focus (first | omega | assumption | (simp [inr_m1, hC]; done) | (simp [inr_m1, hC]; omega) | (clear hr; (try clear hkn); simp_all; done))) | (refine eq_f ?_ ?_; focus (first | omega | assumption | (simp [inr_m1, hC]; done) | (simp [inr_m1, hC]; omega) | (clear hr; (try clear hkn); simp_all; done))) | (exfalso; clear hr; (try clear hkn); simp_all; done)))), ⟨_, scC_self _⟩, rfl, ⟨_, rfl⟩, rfl, rfl⟩)
set_option maxRecDepth 100000 in
set_option maxHeartbeats 400000 in
theorem c_X8_welcome {g : Gl} {I : Ty} {L : TL} {na nt ni m : Nat} {nl : Nat → Nat} (pz : Int32) (cz : Int32) (pp : Nat) (hpp : pp ≤ 6) (hpe : I 23 1 = nI pp) (hxm : 2 * na ≤ m) (hsl : sln nl na ≤ 100) (hok : okSt (I (scell na)) (sln nl na)) (hch : ChOK (I 29)) : Ct g yX8_welcome cX8_welcome 3 (some .int) 2 0 0 [.ref (g.1 + 0), .int pz, .int cz] I L (RT na nt ni) (NT nl) (NB + m) (PZ na ni m nl (some (.int (ifc (inr pz pp ∧ inr cz 16) ((Wl (I 24) (I 25) (I 26) (I 31) pp (nsW I nl na) (I 23 9) (I 27) (I 29) (tn pz) (tn cz))) (-10001)))) (I) L) := by
  refine ct_of (by decide +kernel) (Nat.le_of_ble_eq_true rfl) (fun F hnm hr => ?_)
  clear hnm
  show V g F cX8_welcome RX8 3 2 0 [(0, .ref (g.1 + 0)), (1, .int pz), (2, .int cz)] [] I L (RT na nt ni) (NT nl) (NB + m) 0 0
  refine v_aload_n dX8_welcome_0 rfl 0 rfl ?_
  refine v_iload_n dX8_welcome_1 rfl 1 rfl ?_
  refine v_callVi (As := [.int pz]) (rest := []) lk_X8_74 (c_X8_isTraveller pz pp hpp hpe) dX8_welcome_2 rfl (ltn rfl) rfl rfl (Nat.le_of_ble_eq_true rfl) (by decide) ?_
  refine v_ifb_eq (tgt := 15) dX8_welcome_5 (by decide) (fun h1 => ?_) (fun h1 => ?_)
  · -- not inr pz pp
    refine v_sipush (v := (-10001)) dX8_welcome_15 (by decide) ?_
    exact v_iret hr dX8_welcome_18 (⟨congrArg (fun z => some (Value.int z)) (by first | rfl | (simp only [bq, ifc_T, ifc_F, inr_m1, and_true, true_and, and_false, false_and, or_true, true_or, or_false, false_or, not_true_eq_false, not_false_eq_true, and_self, or_self, h1]; done) | (simp [bq, ifc_T, ifc_F, inr_m1, h1]; done) | ((try simp only [bq]); repeat (first | rfl | (refine eq_t ?_ ?_; focus (first | omega | assumption | (simp [inr_m1, h1]; done) | (simp [inr_m1, h1]; omega) | (clear hr; (try clear hkn); simp_all; done))) | (refine eq_f ?_ ?_; focus (first | omega | assumption | (simp [inr_m1, h1]; done) | (simp [inr_m1, h1]; omega) | (clear hr; (try clear hkn); simp_all; done))) | (exfalso; clear hr; (try clear hkn); simp_all; done)))), ⟨_, scC_self _⟩, rfl, ⟨_, rfl⟩, rfl, rfl⟩)
  · -- inr pz pp
    obtain ⟨P2, rfl, l3, t4, u5⟩ := inr_ex h1 (by omega)
    refine v_iload_n dX8_welcome_8 rfl 2 rfl ?_
    refine v_callSi (As := [.int cz]) (rest := []) lk_X8_62 (c_X8_isCell cz) dX8_welcome_9 rfl rfl (Nat.le_of_ble_eq_true rfl) (by decide) ?_
    refine v_ifb_ne (tgt := 19) dX8_welcome_12 (by decide) (fun h6 => ?_) (fun h6 => ?_)
    · -- inr cz 16
      obtain ⟨P7, rfl, l8, t9, u10⟩ := inr_ex h6 (by omega)
      refine v_aload_n dX8_welcome_19 rfl 0 rfl ?_
      refine v_get (v := .ref (g.1 + 23)) fa_X8_51 dX8_welcome_20 rfl (by decide) (ltn rfl) rfl ?_
      refine v_iload_n dX8_welcome_23 rfl 1 rfl ?_
      refine v_iload_n dX8_welcome_24 rfl 2 rfl ?_
      refine v_callVfi (As := [.int (nI P2), .int (nI P7)]) (rest := []) lk_X8_115 (c_wel_23 (I := I) P2 P7 pp hpp hpe (by omega) (by omega) hxm hsl hok hch) dX8_welcome_25 rfl (ltn rfl) rfl rfl (Nat.le_of_ble_eq_true rfl) (by decide) (fun fq11 => ?_)
      exact v_iret hr dX8_welcome_28 (⟨congrArg (fun z => some (Value.int z)) (by first | rfl | (simp only [bq, ifc_T, ifc_F, inr_m1, and_true, true_and, and_false, false_and, or_true, true_or, or_false, false_or, not_true_eq_false, not_false_eq_true, and_self, or_self, h1, t4, u5, l3, h6, t9, u10, l8]; done) | (simp [bq, ifc_T, ifc_F, inr_m1, h1, t4, u5, l3, h6, t9, u10, l8]; done) | ((try simp only [bq]); repeat (first | rfl | (refine eq_t ?_ ?_; focus (first | omega | assumption | (simp [inr_m1, h1, t4, u5, l3, h6, t9, u10, l8]; done) | (simp [inr_m1, h1, t4, u5, l3, h6, t9, u10, l8]; omega) | (simp only [u5, u10]; omega) | (clear hr; (try clear hkn); simp_all; done))) | (refine eq_f ?_ ?_; focus (first | omega | assumption | (simp [inr_m1, h1, t4, u5, l3, h6, t9, u10, l8]; done) | (simp [inr_m1, h1, t4, u5, l3, h6, t9, u10, l8]; omega) | (simp only [u5, u10]; omega) | (clear hr; (try clear hkn); simp_all; done))) | (simp only [t4, t9]; done) | (exfalso; clear hr; (try clear hkn); simp_all; done)))), ⟨_, scC_32 _ _⟩, rfl, ⟨_, rfl⟩, rfl, rfl⟩)
    · -- not inr cz 16
      refine v_sipush (v := (-10001)) dX8_welcome_15 (by decide) ?_
      exact v_iret hr dX8_welcome_18 (⟨congrArg (fun z => some (Value.int z)) (by first | rfl | (simp only [bq, ifc_T, ifc_F, inr_m1, and_true, true_and, and_false, false_and, or_true, true_or, or_false, false_or, not_true_eq_false, not_false_eq_true, and_self, or_self, h1, t4, u5, l3, h6]; done) | (simp [bq, ifc_T, ifc_F, inr_m1, h1, t4, u5, l3, h6]; done) | ((try simp only [bq]); repeat (first | rfl | (refine eq_t ?_ ?_; focus (first | omega | assumption | (simp [inr_m1, h1, t4, u5, l3, h6]; done) | (simp [inr_m1, h1, t4, u5, l3, h6]; omega) | (simp only [u5]; omega) | (clear hr; (try clear hkn); simp_all; done))) | (refine eq_f ?_ ?_; focus (first | omega | assumption | (simp [inr_m1, h1, t4, u5, l3, h6]; done) | (simp [inr_m1, h1, t4, u5, l3, h6]; omega) | (simp only [u5]; omega) | (clear hr; (try clear hkn); simp_all; done))) | (simp only [t4]; done) | (exfalso; clear hr; (try clear hkn); simp_all; done)))), ⟨_, scC_self _⟩, rfl, ⟨_, rfl⟩, rfl, rfl⟩)
set_option maxRecDepth 100000 in
set_option maxHeartbeats 400000 in
theorem c_X8_straight {g : Gl} {I : Ty} {L : TL} {na nt ni m : Nat} {nl : Nat → Nat} (pz : Int32) (cz : Int32) (pp : Nat) (hpp : pp ≤ 6) (hpe : I 23 1 = nI pp) (hxm : 2 * na ≤ m) (hsl : sln nl na ≤ 100) (hok : okSt (I (scell na)) (sln nl na)) (hch : ChOK (I 29)) (hS : okS (mgC23 I)) : Ct g yX8_straight cX8_straight 3 (some .int) 3 0 0 [.ref (g.1 + 0), .int pz, .int cz] I L (RT na nt ni) (NT nl) (NB + m) (PZ na ni m nl (some (.int (ifc (inr pz pp ∧ inr cz 16) (lw (refv (fun q => (Wl (I 24) (I 25) (I 26) (I 31) pp (nsW I nl na) (I 23 9) (I 27) (I 29) (tn pz) q)) 16) (tn (I 27 (tn pz))) (tn cz)) (-1)))) (I) L) := by
  refine ct_of (by decide +kernel) (Nat.le_of_ble_eq_true rfl) (fun F hnm hr => ?_)
  clear hnm
  show V g F cX8_straight RX8 3 3 0 [(0, .ref (g.1 + 0)), (1, .int pz), (2, .int cz)] [] I L (RT na nt ni) (NT nl) (NB + m) 0 0
  refine v_aload_n dX8_straight_0 rfl 0 rfl ?_
  refine v_iload_n dX8_straight_1 rfl 1 rfl ?_
  refine v_callVi (As := [.int pz]) (rest := []) lk_X8_74 (c_X8_isTraveller pz pp hpp hpe) dX8_straight_2 rfl (ltn rfl) rfl rfl (Nat.le_of_ble_eq_true rfl) (by decide) ?_
  refine v_ifb_eq (tgt := 15) dX8_straight_5 (by decide) (fun h1 => ?_) (fun h1 => ?_)
  · -- not inr pz pp
    refine v_iconst (v := (-1)) dX8_straight_15 (by decide) ?_
    exact v_iret hr dX8_straight_16 (⟨congrArg (fun z => some (Value.int z)) (by first | rfl | (simp only [bq, ifc_T, ifc_F, inr_m1, and_true, true_and, and_false, false_and, or_true, true_or, or_false, false_or, not_true_eq_false, not_false_eq_true, and_self, or_self, h1]; done) | (simp [bq, ifc_T, ifc_F, inr_m1, h1]; done) | ((try simp only [bq]); repeat (first | rfl | (refine eq_t ?_ ?_; focus (first | omega | assumption | (simp [inr_m1, h1]; done) | (simp [inr_m1, h1]; omega) | (clear hr; (try clear hkn); simp_all; done))) | (refine eq_f ?_ ?_; focus (first | omega | assumption | (simp [inr_m1, h1]; done) | (simp [inr_m1, h1]; omega) | (clear hr; (try clear hkn); simp_all; done))) | (exfalso; clear hr; (try clear hkn); simp_all; done)))), ⟨_, scC_self _⟩, rfl, ⟨_, rfl⟩, rfl, rfl⟩)
  · -- inr pz pp
    obtain ⟨P2, rfl, l3, t4, u5⟩ := inr_ex h1 (by omega)
    obtain ⟨sz, hsz, hes⟩ := hS P2 (by omega)
    have hes : I 27 P2 = nI sz := hes
    have htz : tn (nI sz) = sz := tn_nI (by omega)
    refine v_iload_n dX8_straight_8 rfl 2 rfl ?_
    refine v_callSi (As := [.int cz]) (rest := []) lk_X8_62 (c_X8_isCell cz) dX8_straight_9 rfl rfl (Nat.le_of_ble_eq_true rfl) (by decide) ?_
    refine v_ifb_ne (tgt := 17) dX8_straight_12 (by decide) (fun h6 => ?_) (fun h6 => ?_)
    · -- inr cz 16
      obtain ⟨P7, rfl, l8, t9, u10⟩ := inr_ex h6 (by omega)
      refine v_aload_n dX8_straight_17 rfl 0 rfl ?_
      refine v_get (v := .ref (g.1 + 23)) fa_X8_51 dX8_straight_18 rfl (by decide) (ltn rfl) rfl ?_
      refine v_get (v := .ref (g.1 + 27)) fa_X8_84 dX8_straight_21 rfl (by decide) (ltn rfl) rfl ?_
      refine v_iload_n dX8_straight_24 rfl 1 rfl ?_
      refine v_iaload (len := 6) (j := P2) dX8_straight_25 rfl (ltn rfl) rfl (by decide) rfl (by omega) ?_
      refine v_is hes ?_
      refine v_iload_n dX8_straight_26 rfl 2 rfl ?_
      refine v_aload_n dX8_straight_27 rfl 0 rfl ?_
      refine v_get (v := .ref (g.1 + 23)) fa_X8_51 dX8_straight_28 rfl (by decide) (ltn rfl) rfl ?_
      refine v_iload_n dX8_straight_31 rfl 1 rfl ?_
      refine v_callVfi (As := [.int (nI P2)]) (rest := [.int (nI P7), .int (nI sz)]) lk_X8_103 (c_refusals (I := I) P2 pp hpp hpe (by omega) hxm hsl hok hch) dX8_straight_32 rfl (ltn rfl) rfl rfl (Nat.le_of_ble_eq_true rfl) (by decide) (fun fq11 => ?_)
      refine v_callSi (As := [.int (nI sz), .int (nI P7), .int (refv (fun q => (Wl (I 24) (I 25) (I 26) (I 31) pp (nsW I nl na) (I 23 9) (I 27) (I 29) P2 q)) 16)]) (rest := []) lk_X8_177 (c_X7_length sz P7 (refv (fun q => (Wl (I 24) (I 25) (I 26) (I 31) pp (nsW I nl na) (I 23 9) (I 27) (I 29) P2 q)) 16) (by omega) (by omega)) dX8_straight_35 rfl rfl (Nat.le_of_ble_eq_true rfl) (by decide) ?_
      exact v_iret hr dX8_straight_38 (⟨congrArg (fun z => some (Value.int z)) (by first | rfl | (simp only [bq, ifc_T, ifc_F, inr_m1, and_true, true_and, and_false, false_and, or_true, true_or, or_false, false_or, not_true_eq_false, not_false_eq_true, and_self, or_self, h1, t4, u5, l3, hes, htz, h6, t9, u10, l8]; done) | (simp [bq, ifc_T, ifc_F, inr_m1, h1, t4, u5, l3, hes, htz, h6, t9, u10, l8]; done) | ((try simp only [bq]); repeat (first | rfl | (refine eq_t ?_ ?_; focus (first | omega | assumption | (simp [inr_m1, h1, t4, u5, l3, hes, htz, h6, t9, u10, l8]; done) | (simp [inr_m1, h1, t4, u5, l3, hes, htz, h6, t9, u10, l8]; omega) | (simp only [u5, u10]; omega) | (clear hr; (try clear hkn); simp_all; done))) | (refine eq_f ?_ ?_; focus (first | omega | assumption | (simp [inr_m1, h1, t4, u5, l3, hes, htz, h6, t9, u10, l8]; done) | (simp [inr_m1, h1, t4, u5, l3, hes, htz, h6, t9, u10, l8]; omega) | (simp only [u5, u10]; omega) | (clear hr; (try clear hkn); simp_all; done))) | (simp only [t4, t9]; done) | (exfalso; clear hr; (try clear hkn); simp_all; done)))), ⟨_, scC_32 _ _⟩, rfl, ⟨_, rfl⟩, rfl, rfl⟩)
    · -- not inr cz 16
      refine v_iconst (v := (-1)) dX8_straight_15 (by decide) ?_
      exact v_iret hr dX8_straight_16 (⟨congrArg (fun z => some (Value.int z)) (by first | rfl | (simp only [bq, ifc_T, ifc_F, inr_m1, and_true, true_and, and_false, false_and, or_true, true_or, or_false, false_or, not_true_eq_false, not_false_eq_true, and_self, or_self, h1, t4, u5, l3, hes, htz, h6]; done) | (simp [bq, ifc_T, ifc_F, inr_m1, h1, t4, u5, l3, hes, htz, h6]; done) | ((try simp only [bq]); repeat (first | rfl | (refine eq_t ?_ ?_; focus (first | omega | assumption | (simp [inr_m1, h1, t4, u5, l3, hes, htz, h6]; done) | (simp [inr_m1, h1, t4, u5, l3, hes, htz, h6]; omega) | (simp only [u5]; omega) | (clear hr; (try clear hkn); simp_all; done))) | (refine eq_f ?_ ?_; focus (first | omega | assumption | (simp [inr_m1, h1, t4, u5, l3, hes, htz, h6]; done) | (simp [inr_m1, h1, t4, u5, l3, hes, htz, h6]; omega) | (simp only [u5]; omega) | (clear hr; (try clear hkn); simp_all; done))) | (simp only [t4]; done) | (exfalso; clear hr; (try clear hkn); simp_all; done)))), ⟨_, scC_self _⟩, rfl, ⟨_, rfl⟩, rfl, rfl⟩)
set_option maxRecDepth 100000 in
set_option maxHeartbeats 1000000 in
theorem c_X8_see {g : Gl} {I : Ty} {L : TL} {na nt ni m : Nat} {nl : Nat → Nat} (pz : Int32) (tz : Int32) (cz : Int32) (pp : Nat) (hpp : pp ≤ 6) (hpe : I 23 1 = nI pp) (kn : Nat) (hkl : kn ≤ 5) (hkn : I 2 0 = nI kn) (hmo : I 2 1 = nI 5) : Ct g yX8_see cX8_see 4 (some .int) 2 0 0 [.ref (g.1 + 0), .int pz, .int tz, .int cz] I L (RT na nt ni) (NT nl) (NB + m) (PZ na ni m nl (some (.int (ifc (pz = -1) 0 (ifc (inr pz pp ∧ inr cz 16) (ifc (inr tz 13) (ifc (kn = 5) (-4) (nI (kn + 1))) (-2)) (-1))))) (ifc (pz = -1) (wr I 2 0 0) (ifc (inr pz pp ∧ inr cz 16 ∧ inr tz 13 ∧ kn ≠ 5) (appI I 2 3 kn pz tz cz) I)) L) := by
  refine ct_of (by decide +kernel) (Nat.le_of_ble_eq_true rfl) (fun F hnm hr => ?_)
  clear hnm
  show V g F cX8_see RX8 4 2 0 [(0, .ref (g.1 + 0)), (1, .int pz), (2, .int tz), (3, .int cz)] [] I L (RT na nt ni) (NT nl) (NB + m) 0 0
  refine v_iload_n dX8_see_0 rfl 1 rfl ?_
  refine v_iconst (v := (-1)) dX8_see_1 (by decide) ?_
  refine v_icmp_ne (tgt := 16) dX8_see_2 (by decide) (fun h1 => ?_) (fun h1 => ?_)
  · -- pz ne (-1)
    refine v_aload_n dX8_see_16 rfl 0 rfl ?_
    refine v_iload_n dX8_see_17 rfl 1 rfl ?_
    refine v_callVi (As := [.int pz]) (rest := []) lk_X8_74 (c_X8_isTraveller pz pp hpp hpe) dX8_see_18 rfl (ltn rfl) rfl rfl (Nat.le_of_ble_eq_true rfl) (by decide) ?_
    refine v_ifb_eq (tgt := 31) dX8_see_21 (by decide) (fun h2 => ?_) (fun h2 => ?_)
    · -- not inr pz pp
      refine v_iconst (v := (-1)) dX8_see_31 (by decide) ?_
      exact v_iret hr dX8_see_32 (⟨congrArg (fun z => some (Value.int z)) (by first | rfl | (simp only [bq, ifc_T, ifc_F, inr_m1, and_true, true_and, and_false, false_and, or_true, true_or, or_false, false_or, not_true_eq_false, not_false_eq_true, and_self, or_self, h1, h2]; done) | (simp [bq, ifc_T, ifc_F, inr_m1, h1, h2]; done) | ((try simp only [bq]); repeat (first | rfl | (refine eq_t ?_ ?_; focus (first | omega | assumption | (simp [inr_m1, h1, h2]; done) | (simp [inr_m1, h1, h2]; omega) | (clear hr; (try clear hkn); simp_all; done))) | (refine eq_f ?_ ?_; focus (first | omega | assumption | (simp [inr_m1, h1, h2]; done) | (simp [inr_m1, h1, h2]; omega) | (clear hr; (try clear hkn); simp_all; done))) | (exfalso; clear hr; (try clear hkn); simp_all; done)))), ⟨_, (show I = _ from (by first | rfl | (simp only [bq, ifc_T, ifc_F, inr_m1, and_true, true_and, and_false, false_and, or_true, true_or, or_false, false_or, not_true_eq_false, not_false_eq_true, and_self, or_self, h1, h2]; done) | (simp [bq, ifc_T, ifc_F, inr_m1, h1, h2]; done) | ((try simp only [bq]); repeat (first | rfl | (refine eq_t ?_ ?_; focus (first | omega | assumption | (simp [inr_m1, h1, h2]; done) | (simp [inr_m1, h1, h2]; omega) | (clear hr; (try clear hkn); simp_all; done))) | (refine eq_f ?_ ?_; focus (first | omega | assumption | (simp [inr_m1, h1, h2]; done) | (simp [inr_m1, h1, h2]; omega) | (clear hr; (try clear hkn); simp_all; done))) | (exfalso; clear hr; (try clear hkn); simp_all; done))))).trans (scC_self _)⟩, rfl, ⟨_, rfl⟩, rfl, rfl⟩)
    · -- inr pz pp
      obtain ⟨P3, rfl, l4, t5, u6⟩ := inr_ex h2 (by omega)
      refine v_iload_n dX8_see_24 rfl 3 rfl ?_
      refine v_callSi (As := [.int cz]) (rest := []) lk_X8_62 (c_X8_isCell cz) dX8_see_25 rfl rfl (Nat.le_of_ble_eq_true rfl) (by decide) ?_
      refine v_ifb_ne (tgt := 33) dX8_see_28 (by decide) (fun h7 => ?_) (fun h7 => ?_)
      · -- inr cz 16
        obtain ⟨P8, rfl, l9, t10, u11⟩ := inr_ex h7 (by omega)
        refine v_iload_n dX8_see_33 rfl 2 rfl ?_
        refine v_if_lt (tgt := 43) dX8_see_34 (by decide) (fun h12 => ?_) (fun h12 => ?_)
        · -- tz lt 0
          have r13 : ¬ inr tz 13 := inr_lo h12
          -- not inr tz 13
          refine v_bipush (v := (-2)) dX8_see_43 (by decide) ?_
          exact v_iret hr dX8_see_45 (⟨congrArg (fun z => some (Value.int z)) (by first | rfl | (simp only [bq, ifc_T, ifc_F, inr_m1, and_true, true_and, and_false, false_and, or_true, true_or, or_false, false_or, not_true_eq_false, not_false_eq_true, and_self, or_self, h1, h2, t5, u6, l4, h7, t10, u11, l9, h12, r13]; done) | (simp [bq, ifc_T, ifc_F, inr_m1, h1, h2, t5, u6, l4, h7, t10, u11, l9, h12, r13]; done) | ((try simp only [bq]); repeat (first | rfl | (refine eq_t ?_ ?_; focus (first | omega | assumption | (simp [inr_m1, h1, h2, t5, u6, l4, h7, t10, u11, l9, h12, r13]; done) | (simp [inr_m1, h1, h2, t5, u6, l4, h7, t10, u11, l9, h12, r13]; omega) | (simp only [u6, u11]; omega) | (clear hr; (try clear hkn); simp_all; done))) | (refine eq_f ?_ ?_; focus (first | omega | assumption | (simp [inr_m1, h1, h2, t5, u6, l4, h7, t10, u11, l9, h12, r13]; done) | (simp [inr_m1, h1, h2, t5, u6, l4, h7, t10, u11, l9, h12, r13]; omega) | (simp only [u6, u11]; omega) | (clear hr; (try clear hkn); simp_all; done))) | (simp only [t5, t10]; done) | (exfalso; clear hr; (try clear hkn); simp_all; done)))), ⟨_, (show I = _ from (by first | rfl | (simp only [bq, ifc_T, ifc_F, inr_m1, and_true, true_and, and_false, false_and, or_true, true_or, or_false, false_or, not_true_eq_false, not_false_eq_true, and_self, or_self, h1, h2, t5, u6, l4, h7, t10, u11, l9, h12, r13]; done) | (simp [bq, ifc_T, ifc_F, inr_m1, h1, h2, t5, u6, l4, h7, t10, u11, l9, h12, r13]; done) | ((try simp only [bq]); repeat (first | rfl | (refine eq_t ?_ ?_; focus (first | omega | assumption | (simp [inr_m1, h1, h2, t5, u6, l4, h7, t10, u11, l9, h12, r13]; done) | (simp [inr_m1, h1, h2, t5, u6, l4, h7, t10, u11, l9, h12, r13]; omega) | (simp only [u6, u11]; omega) | (clear hr; (try clear hkn); simp_all; done))) | (refine eq_f ?_ ?_; focus (first | omega | assumption | (simp [inr_m1, h1, h2, t5, u6, l4, h7, t10, u11, l9, h12, r13]; done) | (simp [inr_m1, h1, h2, t5, u6, l4, h7, t10, u11, l9, h12, r13]; omega) | (simp only [u6, u11]; omega) | (clear hr; (try clear hkn); simp_all; done))) | (simp only [t5, t10]; done) | (exfalso; clear hr; (try clear hkn); simp_all; done))))).trans (scC_self _)⟩, rfl, ⟨_, rfl⟩, rfl, rfl⟩)
        · -- tz ge 0
          refine v_iload_n dX8_see_37 rfl 2 rfl ?_
          refine v_bipush (v := 12) dX8_see_38 (by decide) ?_
          refine v_icmp_le (tgt := 46) dX8_see_40 (by decide) (fun h14 => ?_) (fun h14 => ?_)
          · -- tz le 12
            have r15 : inr tz 13 := inr_mk2 (k := 12) (by omega) h12 (Int32.not_lt.mpr h14)
            -- inr tz 13
            obtain ⟨P16, rfl, l17, t18, u19⟩ := inr_ex r15 (by omega)
            have h14n := Int32.not_lt.mpr h14
            refine v_aload_n dX8_see_46 rfl 0 rfl ?_
            refine v_get (v := .ref (g.1 + 1)) fa_X8_12 dX8_see_47 rfl (by decide) (ltn rfl) rfl ?_
            refine v_get (v := .ref (g.1 + 2)) fa_X8_185 dX8_see_50 rfl (by decide) (ltn rfl) rfl ?_
            refine v_callVi (As := []) (rest := []) lk_X8_194 (c_isFull_2 (I := I) kn hkn (by omega) hmo) dX8_see_53 rfl (ltn rfl) rfl rfl (Nat.le_of_ble_eq_true rfl) (by decide) ?_
            refine v_ifb_eq (tgt := 64) dX8_see_56 (by decide) (fun h20 => ?_) (fun h20 => ?_)
            · -- not (5 ≤ kn)
              refine v_aload_n dX8_see_64 rfl 0 rfl ?_
              refine v_get (v := .ref (g.1 + 1)) fa_X8_12 dX8_see_65 rfl (by decide) (ltn rfl) rfl ?_
              refine v_get (v := .ref (g.1 + 2)) fa_X8_185 dX8_see_68 rfl (by decide) (ltn rfl) rfl ?_
              refine v_iload_n dX8_see_71 rfl 1 rfl ?_
              refine v_iload_n dX8_see_72 rfl 2 rfl ?_
              refine v_iload_n dX8_see_73 rfl 3 rfl ?_
              refine v_callVi (As := [.int (nI P3), .int (nI P16), .int (nI P8)]) (rest := []) lk_X8_197 (c_append_2 (I := I) (nI P3) (nI P16) (nI P8) kn hkn (by omega)) dX8_see_74 rfl (ltn rfl) rfl rfl (Nat.le_of_ble_eq_true rfl) (by decide) ?_
              exact v_iret hr dX8_see_77 (⟨congrArg (fun z => some (Value.int z)) (by first | rfl | (simp only [bq, ifc_T, ifc_F, inr_m1, and_true, true_and, and_false, false_and, or_true, true_or, or_false, false_or, not_true_eq_false, not_false_eq_true, and_self, or_self, h1, h2, t5, u6, l4, h7, t10, u11, l9, h12, h14, r15, t18, u19, l17, h14n, h20]; done) | (simp [bq, ifc_T, ifc_F, inr_m1, h1, h2, t5, u6, l4, h7, t10, u11, l9, h12, h14, r15, t18, u19, l17, h14n, h20]; done) | ((try simp only [bq]); repeat (first | rfl | (refine eq_t ?_ ?_; focus (first | omega | assumption | (simp [inr_m1, h1, h2, t5, u6, l4, h7, t10, u11, l9, h12, h14, r15, t18, u19, l17, h14n, h20]; done) | (simp [inr_m1, h1, h2, t5, u6, l4, h7, t10, u11, l9, h12, h14, r15, t18, u19, l17, h14n, h20]; omega) | (simp only [u6, u11, u19]; omega) | (clear hr; (try clear hkn); simp_all; done))) | (refine eq_f ?_ ?_; focus (first | omega | assumption | (simp [inr_m1, h1, h2, t5, u6, l4, h7, t10, u11, l9, h12, h14, r15, t18, u19, l17, h14n, h20]; done) | (simp [inr_m1, h1, h2, t5, u6, l4, h7, t10, u11, l9, h12, h14, r15, t18, u19, l17, h14n, h20]; omega) | (simp only [u6, u11, u19]; omega) | (clear hr; (try clear hkn); simp_all; done))) | (simp only [t5, t10, t18]; done) | (exfalso; clear hr; (try clear hkn); simp_all; done)))), ⟨_, (show (appI I 2 3 kn (nI P3) (nI P16) (nI P8)) = _ from (by first | rfl | (simp only [bq, ifc_T, ifc_F, inr_m1, and_true, true_and, and_false, false_and, or_true, true_or, or_false, false_or, not_true_eq_false, not_false_eq_true, and_self, or_self, h1, h2, t5, u6, l4, h7, t10, u11, l9, h12, h14, r15, t18, u19, l17, h14n, h20]; done) | (simp [bq, ifc_T, ifc_F, inr_m1, h1, h2, t5, u6, l4, h7, t10, u11, l9, h12, h14, r15, t18, u19, l17, h14n, h20]; done) | ((try simp only [bq]); repeat (first | rfl | (refine eq_t ?_ ?_; focus (first | omega | assumption | (simp [inr_m1, h1, h2, t5, u6, l4, h7, t10, u11, l9, h12, h14, r15, t18, u19, l17, h14n, h20]; done) | (simp [inr_m1, h1, h2, t5, u6, l4, h7, t10, u11, l9, h12, h14, r15, t18, u19, l17, h14n, h20]; omega) | (simp only [u6, u11, u19]; omega) | (clear hr; (try clear hkn); simp_all; done))) | (refine eq_f ?_ ?_; focus (first | omega | assumption | (simp [inr_m1, h1, h2, t5, u6, l4, h7, t10, u11, l9, h12, h14, r15, t18, u19, l17, h14n, h20]; done) | (simp [inr_m1, h1, h2, t5, u6, l4, h7, t10, u11, l9, h12, h14, r15, t18, u19, l17, h14n, h20]; omega) | (simp only [u6, u11, u19]; omega) | (clear hr; (try clear hkn); simp_all; done))) | (simp only [t5, t10, t18]; done) | (exfalso; clear hr; (try clear hkn); simp_all; done))))).trans (scC_self _)⟩, rfl, ⟨_, rfl⟩, rfl, rfl⟩)
            · -- (5 ≤ kn)
              refine v_bipush (v := (-4)) dX8_see_59 (by decide) ?_
              refine v_goto (tgt := 77) dX8_see_61 (by decide) ?_
              exact v_iret hr dX8_see_77 (⟨congrArg (fun z => some (Value.int z)) (by first | rfl | (simp only [bq, ifc_T, ifc_F, inr_m1, and_true, true_and, and_false, false_and, or_true, true_or, or_false, false_or, not_true_eq_false, not_false_eq_true, and_self, or_self, h1, h2, t5, u6, l4, h7, t10, u11, l9, h12, h14, r15, t18, u19, l17, h14n, h20]; done) | (simp [bq, ifc_T, ifc_F, inr_m1, h1, h2, t5, u6, l4, h7, t10, u11, l9, h12, h14, r15, t18, u19, l17, h14n, h20]; done) | ((try simp only [bq]); repeat (first | rfl | (refine eq_t ?_ ?_; focus (first | omega | assumption | (simp [inr_m1, h1, h2, t5, u6, l4, h7, t10, u11, l9, h12, h14, r15, t18, u19, l17, h14n, h20]; done) | (simp [inr_m1, h1, h2, t5, u6, l4, h7, t10, u11, l9, h12, h14, r15, t18, u19, l17, h14n, h20]; omega) | (simp only [u6, u11, u19]; omega) | (clear hr; (try clear hkn); simp_all; done))) | (refine eq_f ?_ ?_; focus (first | omega | assumption | (simp [inr_m1, h1, h2, t5, u6, l4, h7, t10, u11, l9, h12, h14, r15, t18, u19, l17, h14n, h20]; done) | (simp [inr_m1, h1, h2, t5, u6, l4, h7, t10, u11, l9, h12, h14, r15, t18, u19, l17, h14n, h20]; omega) | (simp only [u6, u11, u19]; omega) | (clear hr; (try clear hkn); simp_all; done))) | (simp only [t5, t10, t18]; done) | (exfalso; clear hr; (try clear hkn); simp_all; done)))), ⟨_, (show I = _ from (by first | rfl | (simp only [bq, ifc_T, ifc_F, inr_m1, and_true, true_and, and_false, false_and, or_true, true_or, or_false, false_or, not_true_eq_false, not_false_eq_true, and_self, or_self, h1, h2, t5, u6, l4, h7, t10, u11, l9, h12, h14, r15, t18, u19, l17, h14n, h20]; done) | (simp [bq, ifc_T, ifc_F, inr_m1, h1, h2, t5, u6, l4, h7, t10, u11, l9, h12, h14, r15, t18, u19, l17, h14n, h20]; done) | ((try simp only [bq]); repeat (first | rfl | (refine eq_t ?_ ?_; focus (first | omega | assumption | (simp [inr_m1, h1, h2, t5, u6, l4, h7, t10, u11, l9, h12, h14, r15, t18, u19, l17, h14n, h20]; done) | (simp [inr_m1, h1, h2, t5, u6, l4, h7, t10, u11, l9, h12, h14, r15, t18, u19, l17, h14n, h20]; omega) | (simp only [u6, u11, u19]; omega) | (clear hr; (try clear hkn); simp_all; done))) | (refine eq_f ?_ ?_; focus (first | omega | assumption | (simp [inr_m1, h1, h2, t5, u6, l4, h7, t10, u11, l9, h12, h14, r15, t18, u19, l17, h14n, h20]; done) | (simp [inr_m1, h1, h2, t5, u6, l4, h7, t10, u11, l9, h12, h14, r15, t18, u19, l17, h14n, h20]; omega) | (simp only [u6, u11, u19]; omega) | (clear hr; (try clear hkn); simp_all; done))) | (simp only [t5, t10, t18]; done) | (exfalso; clear hr; (try clear hkn); simp_all; done))))).trans (scC_self _)⟩, rfl, ⟨_, rfl⟩, rfl, rfl⟩)
          · -- tz gt 12
            have r21 : ¬ inr tz 13 := inr_gt (k := 12) (by omega) (Int32.not_le.mp h14)
            -- not inr tz 13
            have h14n := Int32.not_le.mp h14
            refine v_bipush (v := (-2)) dX8_see_43 (by decide) ?_
            exact v_iret hr dX8_see_45 (⟨congrArg (fun z => some (Value.int z)) (by first | rfl | (simp only [bq, ifc_T, ifc_F, inr_m1, and_true, true_and, and_false, false_and, or_true, true_or, or_false, false_or, not_true_eq_false, not_false_eq_true, and_self, or_self, h1, h2, t5, u6, l4, h7, t10, u11, l9, h12, h14, r21, h14n]; done) | (simp [bq, ifc_T, ifc_F, inr_m1, h1, h2, t5, u6, l4, h7, t10, u11, l9, h12, h14, r21, h14n]; done) | ((try simp only [bq]); repeat (first | rfl | (refine eq_t ?_ ?_; focus (first | omega | assumption | (simp [inr_m1, h1, h2, t5, u6, l4, h7, t10, u11, l9, h12, h14, r21, h14n]; done) | (simp [inr_m1, h1, h2, t5, u6, l4, h7, t10, u11, l9, h12, h14, r21, h14n]; omega) | (simp only [u6, u11]; omega) | (clear hr; (try clear hkn); simp_all; done))) | (refine eq_f ?_ ?_; focus (first | omega | assumption | (simp [inr_m1, h1, h2, t5, u6, l4, h7, t10, u11, l9, h12, h14, r21, h14n]; done) | (simp [inr_m1, h1, h2, t5, u6, l4, h7, t10, u11, l9, h12, h14, r21, h14n]; omega) | (simp only [u6, u11]; omega) | (clear hr; (try clear hkn); simp_all; done))) | (simp only [t5, t10]; done) | (exfalso; clear hr; (try clear hkn); simp_all; done)))), ⟨_, (show I = _ from (by first | rfl | (simp only [bq, ifc_T, ifc_F, inr_m1, and_true, true_and, and_false, false_and, or_true, true_or, or_false, false_or, not_true_eq_false, not_false_eq_true, and_self, or_self, h1, h2, t5, u6, l4, h7, t10, u11, l9, h12, h14, r21, h14n]; done) | (simp [bq, ifc_T, ifc_F, inr_m1, h1, h2, t5, u6, l4, h7, t10, u11, l9, h12, h14, r21, h14n]; done) | ((try simp only [bq]); repeat (first | rfl | (refine eq_t ?_ ?_; focus (first | omega | assumption | (simp [inr_m1, h1, h2, t5, u6, l4, h7, t10, u11, l9, h12, h14, r21, h14n]; done) | (simp [inr_m1, h1, h2, t5, u6, l4, h7, t10, u11, l9, h12, h14, r21, h14n]; omega) | (simp only [u6, u11]; omega) | (clear hr; (try clear hkn); simp_all; done))) | (refine eq_f ?_ ?_; focus (first | omega | assumption | (simp [inr_m1, h1, h2, t5, u6, l4, h7, t10, u11, l9, h12, h14, r21, h14n]; done) | (simp [inr_m1, h1, h2, t5, u6, l4, h7, t10, u11, l9, h12, h14, r21, h14n]; omega) | (simp only [u6, u11]; omega) | (clear hr; (try clear hkn); simp_all; done))) | (simp only [t5, t10]; done) | (exfalso; clear hr; (try clear hkn); simp_all; done))))).trans (scC_self _)⟩, rfl, ⟨_, rfl⟩, rfl, rfl⟩)
      · -- not inr cz 16
        refine v_iconst (v := (-1)) dX8_see_31 (by decide) ?_
        exact v_iret hr dX8_see_32 (⟨congrArg (fun z => some (Value.int z)) (by first | rfl | (simp only [bq, ifc_T, ifc_F, inr_m1, and_true, true_and, and_false, false_and, or_true, true_or, or_false, false_or, not_true_eq_false, not_false_eq_true, and_self, or_self, h1, h2, t5, u6, l4, h7]; done) | (simp [bq, ifc_T, ifc_F, inr_m1, h1, h2, t5, u6, l4, h7]; done) | ((try simp only [bq]); repeat (first | rfl | (refine eq_t ?_ ?_; focus (first | omega | assumption | (simp [inr_m1, h1, h2, t5, u6, l4, h7]; done) | (simp [inr_m1, h1, h2, t5, u6, l4, h7]; omega) | (simp only [u6]; omega) | (clear hr; (try clear hkn); simp_all; done))) | (refine eq_f ?_ ?_; focus (first | omega | assumption | (simp [inr_m1, h1, h2, t5, u6, l4, h7]; done) | (simp [inr_m1, h1, h2, t5, u6, l4, h7]; omega) | (simp only [u6]; omega) | (clear hr; (try clear hkn); simp_all; done))) | (simp only [t5]; done) | (exfalso; clear hr; (try clear hkn); simp_all; done)))), ⟨_, (show I = _ from (by first | rfl | (simp only [bq, ifc_T, ifc_F, inr_m1, and_true, true_and, and_false, false_and, or_true, true_or, or_false, false_or, not_true_eq_false, not_false_eq_true, and_self, or_self, h1, h2, t5, u6, l4, h7]; done) | (simp [bq, ifc_T, ifc_F, inr_m1, h1, h2, t5, u6, l4, h7]; done) | ((try simp only [bq]); repeat (first | rfl | (refine eq_t ?_ ?_; focus (first | omega | assumption | (simp [inr_m1, h1, h2, t5, u6, l4, h7]; done) | (simp [inr_m1, h1, h2, t5, u6, l4, h7]; omega) | (simp only [u6]; omega) | (clear hr; (try clear hkn); simp_all; done))) | (refine eq_f ?_ ?_; focus (first | omega | assumption | (simp [inr_m1, h1, h2, t5, u6, l4, h7]; done) | (simp [inr_m1, h1, h2, t5, u6, l4, h7]; omega) | (simp only [u6]; omega) | (clear hr; (try clear hkn); simp_all; done))) | (simp only [t5]; done) | (exfalso; clear hr; (try clear hkn); simp_all; done))))).trans (scC_self _)⟩, rfl, ⟨_, rfl⟩, rfl, rfl⟩)
  · -- pz eq (-1)
    refine v_aload_n dX8_see_5 rfl 0 rfl ?_
    refine v_get (v := .ref (g.1 + 1)) fa_X8_12 dX8_see_6 rfl (by decide) (ltn rfl) rfl ?_
    refine v_get (v := .ref (g.1 + 2)) fa_X8_185 dX8_see_9 rfl (by decide) (ltn rfl) rfl ?_
    refine v_callVi (As := []) (rest := []) lk_X8_189 (c_empty_2 (I := I)) dX8_see_12 rfl (ltn rfl) rfl rfl (Nat.le_of_ble_eq_true rfl) (by decide) ?_
    exact v_iret hr dX8_see_15 (⟨congrArg (fun z => some (Value.int z)) (by first | rfl | (simp only [bq, ifc_T, ifc_F, inr_m1, and_true, true_and, and_false, false_and, or_true, true_or, or_false, false_or, not_true_eq_false, not_false_eq_true, and_self, or_self, h1]; done) | (simp [bq, ifc_T, ifc_F, inr_m1, h1]; done) | ((try simp only [bq]); repeat (first | rfl | (refine eq_t ?_ ?_; focus (first | omega | assumption | (simp [inr_m1, h1]; done) | (simp [inr_m1, h1]; omega) | (clear hr; (try clear hkn); simp_all; done))) | (refine eq_f ?_ ?_; focus (first | omega | assumption | (simp [inr_m1, h1]; done) | (simp [inr_m1, h1]; omega) | (clear hr; (try clear hkn); simp_all; done))) | (exfalso; clear hr; (try clear hkn); simp_all; done)))), ⟨_, (show (wr I 2 0 0) = _ from (by first | rfl | (simp only [bq, ifc_T, ifc_F, inr_m1, and_true, true_and, and_false, false_and, or_true, true_or, or_false, false_or, not_true_eq_false, not_false_eq_true, and_self, or_self, h1]; done) | (simp [bq, ifc_T, ifc_F, inr_m1, h1]; done) | ((try simp only [bq]); repeat (first | rfl | (refine eq_t ?_ ?_; focus (first | omega | assumption | (simp [inr_m1, h1]; done) | (simp [inr_m1, h1]; omega) | (clear hr; (try clear hkn); simp_all; done))) | (refine eq_f ?_ ?_; focus (first | omega | assumption | (simp [inr_m1, h1]; done) | (simp [inr_m1, h1]; omega) | (clear hr; (try clear hkn); simp_all; done))) | (exfalso; clear hr; (try clear hkn); simp_all; done))))).trans (scC_self _)⟩, rfl, ⟨_, rfl⟩, rfl, rfl⟩)
set_option maxRecDepth 100000 in
set_option maxHeartbeats 1000000 in
theorem c_X8_book {g : Gl} {I : Ty} {L : TL} {na nt ni m : Nat} {nl : Nat → Nat} (pz : Int32) (xz : Int32) (pp : Nat) (hpp : pp ≤ 6) (hpe : I 23 1 = nI pp) (kn : Nat) (hkl : kn ≤ 8) (hkn : I 6 0 = nI kn) (hmo : I 6 1 = nI 8) : Ct g yX8_book cX8_book 3 (some .int) 2 0 0 [.ref (g.1 + 0), .int pz, .int xz] I L (RT na nt ni) (NT nl) (NB + m) (PZ na ni m nl (some (.int (ifc (pz = -1) 0 (ifc (inr pz pp) (ifc (inr xz 65536) (ifc (kn = 8) (-4) (nI (kn + 1))) (-2)) (-1))))) (ifc (pz = -1) (wr I 6 0 0) (ifc (inr pz pp ∧ inr xz 65536 ∧ kn ≠ 8) (appI I 6 7 kn pz xz 0) I)) L) := by
  refine ct_of (by decide +kernel) (Nat.le_of_ble_eq_true rfl) (fun F hnm hr => ?_)
  clear hnm
  show V g F cX8_book RX8 3 2 0 [(0, .ref (g.1 + 0)), (1, .int pz), (2, .int xz)] [] I L (RT na nt ni) (NT nl) (NB + m) 0 0
  refine v_iload_n dX8_book_0 rfl 1 rfl ?_
  refine v_iconst (v := (-1)) dX8_book_1 (by decide) ?_
  refine v_icmp_ne (tgt := 16) dX8_book_2 (by decide) (fun h1 => ?_) (fun h1 => ?_)
  · -- pz ne (-1)
    refine v_aload_n dX8_book_16 rfl 0 rfl ?_
    refine v_iload_n dX8_book_17 rfl 1 rfl ?_
    refine v_callVi (As := [.int pz]) (rest := []) lk_X8_74 (c_X8_isTraveller pz pp hpp hpe) dX8_book_18 rfl (ltn rfl) rfl rfl (Nat.le_of_ble_eq_true rfl) (by decide) ?_
    refine v_ifb_ne (tgt := 26) dX8_book_21 (by decide) (fun h2 => ?_) (fun h2 => ?_)
    · -- inr pz pp
      obtain ⟨P3, rfl, l4, t5, u6⟩ := inr_ex h2 (by omega)
      refine v_iload_n dX8_book_26 rfl 2 rfl ?_
      refine v_callSi (As := [.int xz]) (rest := []) lk_X8_119 (c_X8_isChart xz) dX8_book_27 rfl rfl (Nat.le_of_ble_eq_true rfl) (by decide) ?_
      refine v_ifb_ne (tgt := 36) dX8_book_30 (by decide) (fun h7 => ?_) (fun h7 => ?_)
      · -- inr xz 65536
        obtain ⟨P8, rfl, l9, t10, u11⟩ := inr_ex h7 (by omega)
        refine v_aload_n dX8_book_36 rfl 0 rfl ?_
        refine v_get (v := .ref (g.1 + 1)) fa_X8_12 dX8_book_37 rfl (by decide) (ltn rfl) rfl ?_
        refine v_get (v := .ref (g.1 + 6)) fa_X8_244 dX8_book_40 rfl (by decide) (ltn rfl) rfl ?_
        refine v_callVi (As := []) (rest := []) lk_X8_194 (c_isFull_6 (I := I) kn hkn (by omega) hmo) dX8_book_43 rfl (ltn rfl) rfl rfl (Nat.le_of_ble_eq_true rfl) (by decide) ?_
        refine v_ifb_eq (tgt := 54) dX8_book_46 (by decide) (fun h12 => ?_) (fun h12 => ?_)
        · -- not (8 ≤ kn)
          refine v_aload_n dX8_book_54 rfl 0 rfl ?_
          refine v_get (v := .ref (g.1 + 1)) fa_X8_12 dX8_book_55 rfl (by decide) (ltn rfl) rfl ?_
          refine v_get (v := .ref (g.1 + 6)) fa_X8_244 dX8_book_58 rfl (by decide) (ltn rfl) rfl ?_
          refine v_iload_n dX8_book_61 rfl 1 rfl ?_
          refine v_iload_n dX8_book_62 rfl 2 rfl ?_
          refine v_iconst (v := 0) dX8_book_63 (by decide) ?_
          refine v_callVi (As := [.int (nI P3), .int (nI P8), .int 0]) (rest := []) lk_X8_197 (c_append_6 (I := I) (nI P3) (nI P8) 0 kn hkn (by omega)) dX8_book_64 rfl (ltn rfl) rfl rfl (Nat.le_of_ble_eq_true rfl) (by decide) ?_
          exact v_iret hr dX8_book_67 (⟨congrArg (fun z => some (Value.int z)) (by first | rfl | (simp only [bq, ifc_T, ifc_F, inr_m1, and_true, true_and, and_false, false_and, or_true, true_or, or_false, false_or, not_true_eq_false, not_false_eq_true, and_self, or_self, h1, h2, t5, u6, l4, h7, t10, u11, l9, h12]; done) | (simp [bq, ifc_T, ifc_F, inr_m1, h1, h2, t5, u6, l4, h7, t10, u11, l9, h12]; done) | ((try simp only [bq]); repeat (first | rfl | (refine eq_t ?_ ?_; focus (first | omega | assumption | (simp [inr_m1, h1, h2, t5, u6, l4, h7, t10, u11, l9, h12]; done) | (simp [inr_m1, h1, h2, t5, u6, l4, h7, t10, u11, l9, h12]; omega) | (simp only [u6, u11]; omega) | (clear hr; (try clear hkn); simp_all; done))) | (refine eq_f ?_ ?_; focus (first | omega | assumption | (simp [inr_m1, h1, h2, t5, u6, l4, h7, t10, u11, l9, h12]; done) | (simp [inr_m1, h1, h2, t5, u6, l4, h7, t10, u11, l9, h12]; omega) | (simp only [u6, u11]; omega) | (clear hr; (try clear hkn); simp_all; done))) | (simp only [t5, t10]; done) | (exfalso; clear hr; (try clear hkn); simp_all; done)))), ⟨_, (show (appI I 6 7 kn (nI P3) (nI P8) 0) = _ from (by first | rfl | (simp only [bq, ifc_T, ifc_F, inr_m1, and_true, true_and, and_false, false_and, or_true, true_or, or_false, false_or, not_true_eq_false, not_false_eq_true, and_self, or_self, h1, h2, t5, u6, l4, h7, t10, u11, l9, h12]; done) | (simp [bq, ifc_T, ifc_F, inr_m1, h1, h2, t5, u6, l4, h7, t10, u11, l9, h12]; done) | ((try simp only [bq]); repeat (first | rfl | (refine eq_t ?_ ?_; focus (first | omega | assumption | (simp [inr_m1, h1, h2, t5, u6, l4, h7, t10, u11, l9, h12]; done) | (simp [inr_m1, h1, h2, t5, u6, l4, h7, t10, u11, l9, h12]; omega) | (simp only [u6, u11]; omega) | (clear hr; (try clear hkn); simp_all; done))) | (refine eq_f ?_ ?_; focus (first | omega | assumption | (simp [inr_m1, h1, h2, t5, u6, l4, h7, t10, u11, l9, h12]; done) | (simp [inr_m1, h1, h2, t5, u6, l4, h7, t10, u11, l9, h12]; omega) | (simp only [u6, u11]; omega) | (clear hr; (try clear hkn); simp_all; done))) | (simp only [t5, t10]; done) | (exfalso; clear hr; (try clear hkn); simp_all; done))))).trans (scC_self _)⟩, rfl, ⟨_, rfl⟩, rfl, rfl⟩)
        · -- (8 ≤ kn)
          refine v_bipush (v := (-4)) dX8_book_49 (by decide) ?_
          refine v_goto (tgt := 67) dX8_book_51 (by decide) ?_
          exact v_iret hr dX8_book_67 (⟨congrArg (fun z => some (Value.int z)) (by first | rfl | (simp only [bq, ifc_T, ifc_F, inr_m1, and_true, true_and, and_false, false_and, or_true, true_or, or_false, false_or, not_true_eq_false, not_false_eq_true, and_self, or_self, h1, h2, t5, u6, l4, h7, t10, u11, l9, h12]; done) | (simp [bq, ifc_T, ifc_F, inr_m1, h1, h2, t5, u6, l4, h7, t10, u11, l9, h12]; done) | ((try simp only [bq]); repeat (first | rfl | (refine eq_t ?_ ?_; focus (first | omega | assumption | (simp [inr_m1, h1, h2, t5, u6, l4, h7, t10, u11, l9, h12]; done) | (simp [inr_m1, h1, h2, t5, u6, l4, h7, t10, u11, l9, h12]; omega) | (simp only [u6, u11]; omega) | (clear hr; (try clear hkn); simp_all; done))) | (refine eq_f ?_ ?_; focus (first | omega | assumption | (simp [inr_m1, h1, h2, t5, u6, l4, h7, t10, u11, l9, h12]; done) | (simp [inr_m1, h1, h2, t5, u6, l4, h7, t10, u11, l9, h12]; omega) | (simp only [u6, u11]; omega) | (clear hr; (try clear hkn); simp_all; done))) | (simp only [t5, t10]; done) | (exfalso; clear hr; (try clear hkn); simp_all; done)))), ⟨_, (show I = _ from (by first | rfl | (simp only [bq, ifc_T, ifc_F, inr_m1, and_true, true_and, and_false, false_and, or_true, true_or, or_false, false_or, not_true_eq_false, not_false_eq_true, and_self, or_self, h1, h2, t5, u6, l4, h7, t10, u11, l9, h12]; done) | (simp [bq, ifc_T, ifc_F, inr_m1, h1, h2, t5, u6, l4, h7, t10, u11, l9, h12]; done) | ((try simp only [bq]); repeat (first | rfl | (refine eq_t ?_ ?_; focus (first | omega | assumption | (simp [inr_m1, h1, h2, t5, u6, l4, h7, t10, u11, l9, h12]; done) | (simp [inr_m1, h1, h2, t5, u6, l4, h7, t10, u11, l9, h12]; omega) | (simp only [u6, u11]; omega) | (clear hr; (try clear hkn); simp_all; done))) | (refine eq_f ?_ ?_; focus (first | omega | assumption | (simp [inr_m1, h1, h2, t5, u6, l4, h7, t10, u11, l9, h12]; done) | (simp [inr_m1, h1, h2, t5, u6, l4, h7, t10, u11, l9, h12]; omega) | (simp only [u6, u11]; omega) | (clear hr; (try clear hkn); simp_all; done))) | (simp only [t5, t10]; done) | (exfalso; clear hr; (try clear hkn); simp_all; done))))).trans (scC_self _)⟩, rfl, ⟨_, rfl⟩, rfl, rfl⟩)
      · -- not inr xz 65536
        refine v_bipush (v := (-2)) dX8_book_33 (by decide) ?_
        exact v_iret hr dX8_book_35 (⟨congrArg (fun z => some (Value.int z)) (by first | rfl | (simp only [bq, ifc_T, ifc_F, inr_m1, and_true, true_and, and_false, false_and, or_true, true_or, or_false, false_or, not_true_eq_false, not_false_eq_true, and_self, or_self, h1, h2, t5, u6, l4, h7]; done) | (simp [bq, ifc_T, ifc_F, inr_m1, h1, h2, t5, u6, l4, h7]; done) | ((try simp only [bq]); repeat (first | rfl | (refine eq_t ?_ ?_; focus (first | omega | assumption | (simp [inr_m1, h1, h2, t5, u6, l4, h7]; done) | (simp [inr_m1, h1, h2, t5, u6, l4, h7]; omega) | (simp only [u6]; omega) | (clear hr; (try clear hkn); simp_all; done))) | (refine eq_f ?_ ?_; focus (first | omega | assumption | (simp [inr_m1, h1, h2, t5, u6, l4, h7]; done) | (simp [inr_m1, h1, h2, t5, u6, l4, h7]; omega) | (simp only [u6]; omega) | (clear hr; (try clear hkn); simp_all; done))) | (simp only [t5]; done) | (exfalso; clear hr; (try clear hkn); simp_all; done)))), ⟨_, (show I = _ from (by first | rfl | (simp only [bq, ifc_T, ifc_F, inr_m1, and_true, true_and, and_false, false_and, or_true, true_or, or_false, false_or, not_true_eq_false, not_false_eq_true, and_self, or_self, h1, h2, t5, u6, l4, h7]; done) | (simp [bq, ifc_T, ifc_F, inr_m1, h1, h2, t5, u6, l4, h7]; done) | ((try simp only [bq]); repeat (first | rfl | (refine eq_t ?_ ?_; focus (first | omega | assumption | (simp [inr_m1, h1, h2, t5, u6, l4, h7]; done) | (simp [inr_m1, h1, h2, t5, u6, l4, h7]; omega) | (simp only [u6]; omega) | (clear hr; (try clear hkn); simp_all; done))) | (refine eq_f ?_ ?_; focus (first | omega | assumption | (simp [inr_m1, h1, h2, t5, u6, l4, h7]; done) | (simp [inr_m1, h1, h2, t5, u6, l4, h7]; omega) | (simp only [u6]; omega) | (clear hr; (try clear hkn); simp_all; done))) | (simp only [t5]; done) | (exfalso; clear hr; (try clear hkn); simp_all; done))))).trans (scC_self _)⟩, rfl, ⟨_, rfl⟩, rfl, rfl⟩)
    · -- not inr pz pp
      refine v_iconst (v := (-1)) dX8_book_24 (by decide) ?_
      exact v_iret hr dX8_book_25 (⟨congrArg (fun z => some (Value.int z)) (by first | rfl | (simp only [bq, ifc_T, ifc_F, inr_m1, and_true, true_and, and_false, false_and, or_true, true_or, or_false, false_or, not_true_eq_false, not_false_eq_true, and_self, or_self, h1, h2]; done) | (simp [bq, ifc_T, ifc_F, inr_m1, h1, h2]; done) | ((try simp only [bq]); repeat (first | rfl | (refine eq_t ?_ ?_; focus (first | omega | assumption | (simp [inr_m1, h1, h2]; done) | (simp [inr_m1, h1, h2]; omega) | (clear hr; (try clear hkn); simp_all; done))) | (refine eq_f ?_ ?_; focus (first | omega | assumption | (simp [inr_m1, h1, h2]; done) | (simp [inr_m1, h1, h2]; omega) | (clear hr; (try clear hkn); simp_all; done))) | (exfalso; clear hr; (try clear hkn); simp_all; done)))), ⟨_, (show I = _ from (by first | rfl | (simp only [bq, ifc_T, ifc_F, inr_m1, and_true, true_and, and_false, false_and, or_true, true_or, or_false, false_or, not_true_eq_false, not_false_eq_true, and_self, or_self, h1, h2]; done) | (simp [bq, ifc_T, ifc_F, inr_m1, h1, h2]; done) | ((try simp only [bq]); repeat (first | rfl | (refine eq_t ?_ ?_; focus (first | omega | assumption | (simp [inr_m1, h1, h2]; done) | (simp [inr_m1, h1, h2]; omega) | (clear hr; (try clear hkn); simp_all; done))) | (refine eq_f ?_ ?_; focus (first | omega | assumption | (simp [inr_m1, h1, h2]; done) | (simp [inr_m1, h1, h2]; omega) | (clear hr; (try clear hkn); simp_all; done))) | (exfalso; clear hr; (try clear hkn); simp_all; done))))).trans (scC_self _)⟩, rfl, ⟨_, rfl⟩, rfl, rfl⟩)
  · -- pz eq (-1)
    refine v_aload_n dX8_book_5 rfl 0 rfl ?_
    refine v_get (v := .ref (g.1 + 1)) fa_X8_12 dX8_book_6 rfl (by decide) (ltn rfl) rfl ?_
    refine v_get (v := .ref (g.1 + 6)) fa_X8_244 dX8_book_9 rfl (by decide) (ltn rfl) rfl ?_
    refine v_callVi (As := []) (rest := []) lk_X8_189 (c_empty_6 (I := I)) dX8_book_12 rfl (ltn rfl) rfl rfl (Nat.le_of_ble_eq_true rfl) (by decide) ?_
    exact v_iret hr dX8_book_15 (⟨congrArg (fun z => some (Value.int z)) (by first | rfl | (simp only [bq, ifc_T, ifc_F, inr_m1, and_true, true_and, and_false, false_and, or_true, true_or, or_false, false_or, not_true_eq_false, not_false_eq_true, and_self, or_self, h1]; done) | (simp [bq, ifc_T, ifc_F, inr_m1, h1]; done) | ((try simp only [bq]); repeat (first | rfl | (refine eq_t ?_ ?_; focus (first | omega | assumption | (simp [inr_m1, h1]; done) | (simp [inr_m1, h1]; omega) | (clear hr; (try clear hkn); simp_all; done))) | (refine eq_f ?_ ?_; focus (first | omega | assumption | (simp [inr_m1, h1]; done) | (simp [inr_m1, h1]; omega) | (clear hr; (try clear hkn); simp_all; done))) | (exfalso; clear hr; (try clear hkn); simp_all; done)))), ⟨_, (show (wr I 6 0 0) = _ from (by first | rfl | (simp only [bq, ifc_T, ifc_F, inr_m1, and_true, true_and, and_false, false_and, or_true, true_or, or_false, false_or, not_true_eq_false, not_false_eq_true, and_self, or_self, h1]; done) | (simp [bq, ifc_T, ifc_F, inr_m1, h1]; done) | ((try simp only [bq]); repeat (first | rfl | (refine eq_t ?_ ?_; focus (first | omega | assumption | (simp [inr_m1, h1]; done) | (simp [inr_m1, h1]; omega) | (clear hr; (try clear hkn); simp_all; done))) | (refine eq_f ?_ ?_; focus (first | omega | assumption | (simp [inr_m1, h1]; done) | (simp [inr_m1, h1]; omega) | (clear hr; (try clear hkn); simp_all; done))) | (exfalso; clear hr; (try clear hkn); simp_all; done))))).trans (scC_self _)⟩, rfl, ⟨_, rfl⟩, rfl, rfl⟩)
