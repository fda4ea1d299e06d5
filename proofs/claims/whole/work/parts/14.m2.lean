theorem oth_step {P : Nat → Prop} {p i : Nat} (h : ∀ o, o < i → o ≠ p → P o) (hi : i ≠ p → P i) : ∀ o, o < i + 1 → o ≠ p → P o := fun o h1 h2 => by
  by_cases e : o = i
  · subst e; exact hi h2
  · exact h o (by omega) h2
/-- bit k of a number -/
def hb (x : Int32) (k : Nat) : Prop := x >>> (nI k &&& 31) &&& 1 = 1
noncomputable def bitc (x : Int32) : Nat → Nat
  | 0 => 0
  | k + 1 => bitc x k + ifc (hb x k) 1 0
theorem bitc_le (x : Int32) : ∀ k, bitc x k ≤ k
  | 0 => Nat.le_refl _
  | k + 1 => by
    have h := bitc_le x k
    show bitc x k + ifc (hb x k) 1 0 ≤ k + 1
    by_cases hc : hb x k
    · rw [ifc_t hc]; omega
    · rw [ifc_f hc]; omega
theorem c_hasN {g : Gl} {I : Ty} {L : TL} {na nt ni m : Nat} {nl : Nat → Nat} (x : Int32) (k : Nat) : Ct g yX9_has cX9_has 3 (some .boolean) 0 0 0 [.ref (g.1 + 65), .int x, .int (nI k)] I L (RT na nt ni) (NT nl) (NB + m) (Ps (some (.int (bq (hb x k)))) I L (RT na nt ni) (NT nl) (NB + m)) := c_X9_has x (nI k)
set_option maxRecDepth 100000 in
set_option maxHeartbeats 400000 in
theorem c_X9_bits {g : Gl} {I : Ty} {L : TL} {na nt ni m : Nat} {nl : Nat → Nat} (x : Int32)  : Ct g yX9_bits cX9_bits 4 (some .int) 1 0 0 [.ref (g.1 + 65), .int x] I L (RT na nt ni) (NT nl) (NB + m) (Ps (some (.int (nI (bitc x 16)))) (I) L (RT na nt ni) (NT nl) (NB + m)) := by
  refine ct_of (by decide +kernel) (Nat.le_of_ble_eq_true rfl) (fun F hnm hr => ?_)
  clear hnm
  show V g F cX9_bits RX9 4 1 0 [(0, .ref (g.1 + 65)), (1, .int x)] [] I L (RT na nt ni) (NT nl) (NB + m) 0 0
  refine v_iconst (v := 0) dX9_bits_0 (by decide) ?_
  refine v_istore_n (lv2 := [(2, .int 0), (0, .ref (g.1 + 65)), (1, .int x)]) dX9_bits_1 rfl (by decide) rfl ?_
  refine v_iconst (v := 0) dX9_bits_2 (by decide) ?_
  refine v_istore_n (lv2 := [(3, .int 0), (2, .int 0), (0, .ref (g.1 + 65)), (1, .int x)]) dX9_bits_3 rfl (by decide) rfl ?_
  refine v_lv (lv2 := [(3, .int (nI 0)), (2, .int (nI (bitc x 0))), (0, .ref (g.1 + 65)), (1, .int x)]) (by rfl) ?_
  refine dloop (P := fun i => V g F cX9_bits RX9 4 1 4 [(3, .int (nI i)), (2, .int (nI (bitc x i))), (0, .ref (g.1 + 65)), (1, .int x)] [] I L (RT na nt ni) (NT nl) (NB + m) 0 0) 16 ?_ ?_ 0 (Nat.zero_le _)
  · refine v_iload_n dX9_bits_4 rfl 0 rfl ?_
    refine v_bipush (v := 16) dX9_bits_5 (by decide) ?_
    refine v_icmp_geN (a := 16) (b := 16) (tgt := 33) dX9_bits_7 (by decide) rfl rfl (by omega) (by omega) (fun h1 => ?_) (fun h => by exfalso; omega)
    refine v_iload_n dX9_bits_33 rfl 1 rfl ?_
    exact v_iret hr dX9_bits_34 (psi (by rfl) rfl)
  · intro i hi ih
    refine v_iload_n dX9_bits_4 rfl 0 rfl ?_
    refine v_bipush (v := 16) dX9_bits_5 (by decide) ?_
    refine v_icmp_geN (a := i) (b := 16) (tgt := 33) dX9_bits_7 (by decide) rfl rfl (by omega) (by omega) (fun h => by exfalso; omega) (fun h2 => ?_)
    refine v_iload_n dX9_bits_10 rfl 1 rfl ?_
    refine v_aload_n dX9_bits_11 rfl 2 rfl ?_
    refine v_iload_n dX9_bits_12 rfl 3 rfl ?_
    refine v_iload_n dX9_bits_13 rfl 0 rfl ?_
    refine v_callVi (As := [.int x, .int (nI i)]) (rest := [.int (nI (bitc x i))]) lk_X9_233 (c_hasN x i) dX9_bits_14 rfl (ltn rfl) rfl rfl (Nat.le_of_ble_eq_true rfl) (by decide) ?_
    refine v_ifb_eq (tgt := 24) dX9_bits_17 (by decide) (fun h3 => ?_) (fun h3 => ?_)
    · -- not hb x i
      refine v_iconst (v := 0) dX9_bits_24 (by decide) ?_
      refine v_iadd dX9_bits_25 ?_
      refine v_is (nx_add rfl rfl) ?_
      refine v_istore_n (lv2 := [(2, .int (nI ((bitc x i) + 0))), (3, .int (nI i)), (0, .ref (g.1 + 65)), (1, .int x)]) dX9_bits_26 rfl (by decide) rfl ?_
      refine v_inc (v := nI (i + 1)) (lv2 := [(3, .int (nI (i + 1))), (2, .int (nI ((bitc x i) + 0))), (0, .ref (g.1 + 65)), (1, .int x)]) dX9_bits_27 1 rfl (nx_inc rfl) (by decide) rfl ?_
      refine v_goto (tgt := 4) dX9_bits_30 (by decide) ?_
      refine v_lv (lv2 := [(3, .int (nI (i + 1))), (2, .int (nI (bitc x (i + 1)))), (0, .ref (g.1 + 65)), (1, .int x)]) (by simp only [bitc, ifc_f h3]) ?_
      exact ih
    · -- hb x i
      refine v_iconst (v := 1) dX9_bits_20 (by decide) ?_
      refine v_goto (tgt := 25) dX9_bits_21 (by decide) ?_
      refine v_iadd dX9_bits_25 ?_
      refine v_is (nx_add rfl rfl) ?_
      refine v_istore_n (lv2 := [(2, .int (nI ((bitc x i) + 1))), (3, .int (nI i)), (0, .ref (g.1 + 65)), (1, .int x)]) dX9_bits_26 rfl (by decide) rfl ?_
      refine v_inc (v := nI (i + 1)) (lv2 := [(3, .int (nI (i + 1))), (2, .int (nI ((bitc x i) + 1))), (0, .ref (g.1 + 65)), (1, .int x)]) dX9_bits_27 1 rfl (nx_inc rfl) (by decide) rfl ?_
      refine v_goto (tgt := 4) dX9_bits_30 (by decide) ?_
      refine v_lv (lv2 := [(3, .int (nI (i + 1))), (2, .int (nI (bitc x (i + 1)))), (0, .ref (g.1 + 65)), (1, .int x)]) (by simp only [bitc, ifc_t h3]) ?_
      exact ih
noncomputable def fctM (I : Ty) (p c : Nat) (f : Int32) : Int32 := ifc (f = 0) (nI p) (ifc (f = 1) (I 67 p) (ifc (f = 2) (I 68 p) (ifc (f = 3) (nI c) (ifc (f = 4) (I 66 c) (I 65 1 - I 65 1 / 10 * 10)))))
set_option maxRecDepth 100000 in
set_option maxHeartbeats 400000 in
theorem c_X9_factOf {g : Gl} {I : Ty} {L : TL} {na nt ni m : Nat} {nl : Nat → Nat} (f : Int32) (p : Nat) (c : Nat) (hp : p < 6) (hc : c < 16) : Ct g yX9_factOf cX9_factOf 4 (some .int) 0 0 0 [.ref (g.1 + 65), .int f, .int (nI p), .int (nI c)] I L (RT na nt ni) (NT nl) (NB + m) (Ps (some (.int (fctM I p c f))) (I) L (RT na nt ni) (NT nl) (NB + m)) := by
  refine ct_of (by decide +kernel) (Nat.le_of_ble_eq_true rfl) (fun F hnm hr => ?_)
  clear hnm
  show V g F cX9_factOf RX9 4 0 0 [(0, .ref (g.1 + 65)), (1, .int f), (2, .int (nI p)), (3, .int (nI c))] [] I L (RT na nt ni) (NT nl) (NB + m) 0 0
  refine v_iload_n dX9_factOf_0 rfl 1 rfl ?_
  by_cases k1_0 : f = 0
  · refine v_is k1_0 ?_
    refine v_tabIn (off := 35) (tgt := 36) dX9_factOf_1 (by decide) (by decide) (by decide) (by decide) ?_
    refine v_iload_n dX9_factOf_36 rfl 2 rfl ?_
    exact v_iret hr dX9_factOf_37 (psi (by first | rfl | (simp only [bq, ifc_T, ifc_F, inr_m1, and_true, true_and, and_false, false_and, or_true, true_or, or_false, false_or, not_true_eq_false, not_false_eq_true, and_self, or_self, k1_0, fctM]; done) | (simp [bq, ifc_T, ifc_F, inr_m1, k1_0, fctM]; done) | ((try simp only [bq, fctM]); repeat (first | rfl | (refine eq_t ?_ ?_; focus (first | omega | assumption | (simp [inr_m1, k1_0]; done) | (simp [inr_m1, k1_0]; omega) | (clear hr; (try clear hkn); simp_all; done))) | (refine eq_f ?_ ?_; focus (first | omega | assumption | (simp [inr_m1, k1_0]; done) | (simp [inr_m1, k1_0]; omega) | (clear hr; (try clear hkn); simp_all; done))) | (exfalso; clear hr; (try clear hkn); simp_all; done)))) rfl)
  by_cases k1_1 : f = 1
  · refine v_is k1_1 ?_
    refine v_tabIn (off := 37) (tgt := 38) dX9_factOf_1 (by decide) (by decide) (by decide) (by decide) ?_
    refine v_aload_n dX9_factOf_38 rfl 0 rfl ?_
    refine v_get (v := .ref (g.1 + 67)) fa_X9_20 dX9_factOf_39 rfl (by decide) (ltn rfl) rfl ?_
    refine v_iload_n dX9_factOf_42 rfl 2 rfl ?_
    refine v_iaload (len := 6) (j := p) dX9_factOf_43 rfl (ltn rfl) rfl (by decide) rfl (by omega) ?_
    exact v_iret hr dX9_factOf_44 (psi (by first | rfl | (simp only [bq, ifc_T, ifc_F, inr_m1, and_true, true_and, and_false, false_and, or_true, true_or, or_false, false_or, not_true_eq_false, not_false_eq_true, and_self, or_self, k1_1, fctM]; done) | (simp [bq, ifc_T, ifc_F, inr_m1, k1_1, fctM]; done) | ((try simp only [bq, fctM]); repeat (first | rfl | (refine eq_t ?_ ?_; focus (first | omega | assumption | (simp [inr_m1, k1_1]; done) | (simp [inr_m1, k1_1]; omega) | (clear hr; (try clear hkn); simp_all; done))) | (refine eq_f ?_ ?_; focus (first | omega | assumption | (simp [inr_m1, k1_1]; done) | (simp [inr_m1, k1_1]; omega) | (clear hr; (try clear hkn); simp_all; done))) | (exfalso; clear hr; (try clear hkn); simp_all; done)))) rfl)
  by_cases k1_2 : f = 2
  · refine v_is k1_2 ?_
    refine v_tabIn (off := 44) (tgt := 45) dX9_factOf_1 (by decide) (by decide) (by decide) (by decide) ?_
    refine v_aload_n dX9_factOf_45 rfl 0 rfl ?_
    refine v_get (v := .ref (g.1 + 68)) fa_X9_23 dX9_factOf_46 rfl (by decide) (ltn rfl) rfl ?_
    refine v_iload_n dX9_factOf_49 rfl 2 rfl ?_
    refine v_iaload (len := 6) (j := p) dX9_factOf_50 rfl (ltn rfl) rfl (by decide) rfl (by omega) ?_
    exact v_iret hr dX9_factOf_51 (psi (by first | rfl | (simp only [bq, ifc_T, ifc_F, inr_m1, and_true, true_and, and_false, false_and, or_true, true_or, or_false, false_or, not_true_eq_false, not_false_eq_true, and_self, or_self, k1_2, fctM]; done) | (simp [bq, ifc_T, ifc_F, inr_m1, k1_2, fctM]; done) | ((try simp only [bq, fctM]); repeat (first | rfl | (refine eq_t ?_ ?_; focus (first | omega | assumption | (simp [inr_m1, k1_2]; done) | (simp [inr_m1, k1_2]; omega) | (clear hr; (try clear hkn); simp_all; done))) | (refine eq_f ?_ ?_; focus (first | omega | assumption | (simp [inr_m1, k1_2]; done) | (simp [inr_m1, k1_2]; omega) | (clear hr; (try clear hkn); simp_all; done))) | (exfalso; clear hr; (try clear hkn); simp_all; done)))) rfl)
  by_cases k1_3 : f = 3
  · refine v_is k1_3 ?_
    refine v_tabIn (off := 51) (tgt := 52) dX9_factOf_1 (by decide) (by decide) (by decide) (by decide) ?_
    refine v_iload_n dX9_factOf_52 rfl 3 rfl ?_
    exact v_iret hr dX9_factOf_53 (psi (by first | rfl | (simp only [bq, ifc_T, ifc_F, inr_m1, and_true, true_and, and_false, false_and, or_true, true_or, or_false, false_or, not_true_eq_false, not_false_eq_true, and_self, or_self, k1_3, fctM]; done) | (simp [bq, ifc_T, ifc_F, inr_m1, k1_3, fctM]; done) | ((try simp only [bq, fctM]); repeat (first | rfl | (refine eq_t ?_ ?_; focus (first | omega | assumption | (simp [inr_m1, k1_3]; done) | (simp [inr_m1, k1_3]; omega) | (clear hr; (try clear hkn); simp_all; done))) | (refine eq_f ?_ ?_; focus (first | omega | assumption | (simp [inr_m1, k1_3]; done) | (simp [inr_m1, k1_3]; omega) | (clear hr; (try clear hkn); simp_all; done))) | (exfalso; clear hr; (try clear hkn); simp_all; done)))) rfl)
  by_cases k1_4 : f = 4
  · refine v_is k1_4 ?_
    refine v_tabIn (off := 53) (tgt := 54) dX9_factOf_1 (by decide) (by decide) (by decide) (by decide) ?_
    refine v_aload_n dX9_factOf_54 rfl 0 rfl ?_
    refine v_get (v := .ref (g.1 + 66)) fa_X9_16 dX9_factOf_55 rfl (by decide) (ltn rfl) rfl ?_
    refine v_iload_n dX9_factOf_58 rfl 3 rfl ?_
    refine v_iaload (len := 16) (j := c) dX9_factOf_59 rfl (ltn rfl) rfl (by decide) rfl (by omega) ?_
    exact v_iret hr dX9_factOf_60 (psi (by first | rfl | (simp only [bq, ifc_T, ifc_F, inr_m1, and_true, true_and, and_false, false_and, or_true, true_or, or_false, false_or, not_true_eq_false, not_false_eq_true, and_self, or_self, k1_4, fctM]; done) | (simp [bq, ifc_T, ifc_F, inr_m1, k1_4, fctM]; done) | ((try simp only [bq, fctM]); repeat (first | rfl | (refine eq_t ?_ ?_; focus (first | omega | assumption | (simp [inr_m1, k1_4]; done) | (simp [inr_m1, k1_4]; omega) | (clear hr; (try clear hkn); simp_all; done))) | (refine eq_f ?_ ?_; focus (first | omega | assumption | (simp [inr_m1, k1_4]; done) | (simp [inr_m1, k1_4]; omega) | (clear hr; (try clear hkn); simp_all; done))) | (exfalso; clear hr; (try clear hkn); simp_all; done)))) rfl)
  have t2 : f.toInt < 0 ∨ 4 < f.toInt := by
    rcases sw_out f (0) (4) with h | h | ⟨ha, hb⟩
    · exact Or.inl h
    · exact Or.inr h
    · exfalso
      have hz : ∀ z : Int, 0 ≤ z → z ≤ 4 → z = 0 ∨ z = 1 ∨ z = 2 ∨ z = 3 ∨ z = 4 := by omega
      rcases hz _ ha hb with e | e | e | e | e
      · exact absurd (sw_eq (k := 0) e (by decide)) k1_0
      · exact absurd (sw_eq (k := 1) e (by decide)) k1_1
      · exact absurd (sw_eq (k := 2) e (by decide)) k1_2
      · exact absurd (sw_eq (k := 3) e (by decide)) k1_3
      · exact absurd (sw_eq (k := 4) e (by decide)) k1_4
  refine v_tabOut (tgt := 61) dX9_factOf_1 t2 (by decide) ?_
  refine v_aload_n dX9_factOf_61 rfl 0 rfl ?_
  refine v_get (v := .int (I 65 1)) fa_X9_13 dX9_factOf_62 rfl (by decide) (ltn rfl) rfl ?_
  refine v_bipush (v := 10) dX9_factOf_65 (by decide) ?_
  refine v_irem dX9_factOf_67 (by decide) ?_
  exact v_iret hr dX9_factOf_68 (psi (by first | rfl | (simp only [bq, ifc_T, ifc_F, inr_m1, and_true, true_and, and_false, false_and, or_true, true_or, or_false, false_or, not_true_eq_false, not_false_eq_true, and_self, or_self, k1_0, k1_1, k1_2, k1_3, k1_4, fctM]; done) | (simp [bq, ifc_T, ifc_F, inr_m1, k1_0, k1_1, k1_2, k1_3, k1_4, fctM]; done) | ((try simp only [bq, fctM]); repeat (first | rfl | (refine eq_t ?_ ?_; focus (first | omega | assumption | (simp [inr_m1, k1_0, k1_1, k1_2, k1_3, k1_4]; done) | (simp [inr_m1, k1_0, k1_1, k1_2, k1_3, k1_4]; omega) | (clear hr; (try clear hkn); simp_all; done))) | (refine eq_f ?_ ?_; focus (first | omega | assumption | (simp [inr_m1, k1_0, k1_1, k1_2, k1_3, k1_4]; done) | (simp [inr_m1, k1_0, k1_1, k1_2, k1_3, k1_4]; omega) | (clear hr; (try clear hkn); simp_all; done))) | (exfalso; clear hr; (try clear hkn); simp_all; done)))) rfl)
set_option maxRecDepth 100000 in
set_option maxHeartbeats 400000 in
theorem c_X9_isOtherAt {g : Gl} {I : Ty} {L : TL} {na nt ni m : Nat} {nl : Nat → Nat} (p : Nat) (c : Nat) (pp : Nat) (hpp : pp ≤ 6) (hpe : I 65 0 = nI pp) (hp : p < 6) (hc : c < 16) : Ct g yX9_isOtherAt cX9_isOtherAt 4 (some .boolean) 0 0 0 [.ref (g.1 + 65), .int (nI p), .int (nI c)] I L (RT na nt ni) (NT nl) (NB + m) (Ps (some (.int (bq (∃ o, o < pp ∧ o ≠ p ∧ I 69 o = nI c)))) (I) L (RT na nt ni) (NT nl) (NB + m)) := by
  refine ct_of (by decide +kernel) (Nat.le_of_ble_eq_true rfl) (fun F hnm hr => ?_)
  clear hnm
  show V g F cX9_isOtherAt RX9 4 0 0 [(0, .ref (g.1 + 65)), (1, .int (nI p)), (2, .int (nI c))] [] I L (RT na nt ni) (NT nl) (NB + m) 0 0
  refine v_iconst (v := 0) dX9_isOtherAt_0 (by decide) ?_
  refine v_istore_n (lv2 := [(3, .int 0), (0, .ref (g.1 + 65)), (1, .int (nI p)), (2, .int (nI c))]) dX9_isOtherAt_1 rfl (by decide) rfl ?_
  refine v_lv (lv2 := [(3, .int (nI 0)), (0, .ref (g.1 + 65)), (1, .int (nI p)), (2, .int (nI c))]) (by rfl) ?_
  refine dloop (P := fun i => (∀ o, o < i → o ≠ p → ¬ I 69 o = nI c) → V g F cX9_isOtherAt RX9 4 0 2 [(3, .int (nI i)), (0, .ref (g.1 + 65)), (1, .int (nI p)), (2, .int (nI c))] [] I L (RT na nt ni) (NT nl) (NB + m) 0 0) pp ?_ ?_ 0 (Nat.zero_le _) (fun o h => absurd h (Nat.not_lt_zero o))
  · intro hinv
    refine v_iload_n dX9_isOtherAt_2 rfl 0 rfl ?_
    refine v_aload_n dX9_isOtherAt_3 rfl 1 rfl ?_
    refine v_get (v := .int (I 65 0)) fa_X9_7 dX9_isOtherAt_4 rfl (by decide) (ltn rfl) rfl ?_
    refine v_is hpe ?_
    refine v_icmp_geN (a := pp) (b := pp) (tgt := 33) dX9_isOtherAt_7 (by decide) rfl rfl (by omega) (by omega) (fun h1 => ?_) (fun h => by exfalso; omega)
    refine v_iconst (v := 0) dX9_isOtherAt_33 (by decide) ?_
    exact v_zret hr dX9_isOtherAt_34 (by first | rfl | exact nbq) (psi (bq_f (fun ⟨o, h1, h2, h3⟩ => hinv o h1 h2 h3)).symm rfl)
  · intro i hi ih
    intro hinv
    refine v_iload_n dX9_isOtherAt_2 rfl 0 rfl ?_
    refine v_aload_n dX9_isOtherAt_3 rfl 1 rfl ?_
    refine v_get (v := .int (I 65 0)) fa_X9_7 dX9_isOtherAt_4 rfl (by decide) (ltn rfl) rfl ?_
    refine v_is hpe ?_
    refine v_icmp_geN (a := i) (b := pp) (tgt := 33) dX9_isOtherAt_7 (by decide) rfl rfl (by omega) (by omega) (fun h => by exfalso; omega) (fun h2 => ?_)
    refine v_iload_n dX9_isOtherAt_10 rfl 0 rfl ?_
    refine v_iload_n dX9_isOtherAt_11 rfl 2 rfl ?_
    refine v_icmp_eqN (a := i) (b := p) (tgt := 27) dX9_isOtherAt_12 (by decide) rfl rfl (by omega) (by omega) (fun h3 => ?_) (fun h3 => ?_)
    · -- i eq p
      refine v_inc (v := nI (i + 1)) (lv2 := [(3, .int (nI (i + 1))), (0, .ref (g.1 + 65)), (1, .int (nI p)), (2, .int (nI c))]) dX9_isOtherAt_27 0 rfl (nx_inc rfl) (by decide) rfl ?_
      refine v_goto (tgt := 2) dX9_isOtherAt_30 (by decide) ?_
      exact ih (oth_step hinv (fun h => absurd h3 h))
    · -- i ne p
      refine v_aload_n dX9_isOtherAt_15 rfl 1 rfl ?_
      refine v_get (v := .ref (g.1 + 69)) fa_X9_26 dX9_isOtherAt_16 rfl (by decide) (ltn rfl) rfl ?_
      refine v_iload_n dX9_isOtherAt_19 rfl 0 rfl ?_
      refine v_iaload (len := 6) (j := i) dX9_isOtherAt_20 rfl (ltn rfl) rfl (by decide) rfl (by omega) ?_
      refine v_iload_n dX9_isOtherAt_21 rfl 3 rfl ?_
      refine v_icmp_ne (tgt := 27) dX9_isOtherAt_22 (by decide) (fun h4 => ?_) (fun h4 => ?_)
      · -- I 69 i ne nI c
        refine v_inc (v := nI (i + 1)) (lv2 := [(3, .int (nI (i + 1))), (0, .ref (g.1 + 65)), (1, .int (nI p)), (2, .int (nI c))]) dX9_isOtherAt_27 0 rfl (nx_inc rfl) (by decide) rfl ?_
        refine v_goto (tgt := 2) dX9_isOtherAt_30 (by decide) ?_
        exact ih (oth_step hinv (fun _ => h4))
      · -- I 69 i eq nI c
        refine v_iconst (v := 1) dX9_isOtherAt_25 (by decide) ?_
        exact v_zret hr dX9_isOtherAt_26 (by first | rfl | exact nbq) (psi (bq_t ⟨i, hi, h3, h4⟩).symm rfl)
