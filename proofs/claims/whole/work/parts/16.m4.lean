/-- the trace grows by one body, by a list of bodies -/
noncomputable def mbody (I : Ty) (rn : Nat) (b : Int32) : Ty := wr (ifc (rn < 20) (wr I 111 rn b) I) 65 67 (nI (rn + 1))
noncomputable def mtr : Ty → Nat → List Int32 → Ty
  | I, _, [] => I
  | I, rn, b :: bs => mtr (mbody I rn b) (rn + 1) bs
theorem mbody_off (I : Ty) (rn : Nat) (b : Int32) (a : Nat) (h1 : a ≠ 65) (h2 : a ≠ 111) : mbody I rn b a = I a := by
  unfold mbody wr
  rw [up_off _ _ h1]
  by_cases h : rn < 20
  · rw [ifc_t h, up_off _ _ h2]
  · rw [ifc_f h]
theorem mbody_65 (I : Ty) (rn : Nat) (b : Int32) (j : Nat) (h1 : j ≠ 67) : mbody I rn b 65 j = I 65 j := by
  unfold mbody wr
  rw [up_at, up_off _ _ h1]
  by_cases h : rn < 20
  · rw [ifc_t h, up_off _ _ (by decide)]
  · rw [ifc_f h]
theorem mbody_ran (I : Ty) (rn : Nat) (b : Int32) : mbody I rn b 65 67 = nI (rn + 1) := by
  unfold mbody wr
  rw [up_at, up_at]
theorem mtr_off : ∀ (l : List Int32) (I : Ty) (rn a : Nat), a ≠ 65 → a ≠ 111 → mtr I rn l a = I a
  | [], _, _, _, _, _ => rfl
  | b :: l, I, rn, a, h1, h2 => (mtr_off l (mbody I rn b) (rn + 1) a h1 h2).trans (mbody_off I rn b a h1 h2)
theorem mtr_65 : ∀ (l : List Int32) (I : Ty) (rn j : Nat), j ≠ 67 → mtr I rn l 65 j = I 65 j
  | [], _, _, _, _ => rfl
  | b :: l, I, rn, j, h => (mtr_65 l (mbody I rn b) (rn + 1) j h).trans (mbody_65 I rn b j h)
theorem mtr_ran : ∀ (l : List Int32) (I : Ty) (rn : Nat), I 65 67 = nI rn → mtr I rn l 65 67 = nI (rn + l.length)
  | [], _, _, h => h
  | b :: l, I, rn, h => by
    have h1 := mtr_ran l (mbody I rn b) (rn + 1) (mbody_ran I rn b)
    rw [show mtr I rn (b :: l) = mtr (mbody I rn b) (rn + 1) l from rfl, h1, List.length_cons]
    congr 1
    omega
theorem mtr_app : ∀ (l l2 : List Int32) (I : Ty) (rn : Nat), mtr (mtr I rn l) (rn + l.length) l2 = mtr I rn (l ++ l2)
  | [], _, _, _ => rfl
  | b :: l, l2, I, rn => by
    have h := mtr_app l l2 (mbody I rn b) (rn + 1)
    rw [show rn + (b :: l).length = rn + 1 + l.length by rw [List.length_cons]; omega]
    exact h
noncomputable def knV (k i v x : Int32) : Int32 := ifc (k = 2 ∨ k = 5) (x * 3 + i) (ifc (k = 4) (-(x + i)) (ifc (k = 6) ((x + i) ^^^ v) (x + i)))
noncomputable def knT (k : Int32) : List Int32 := ifc (k = 2 ∨ k = 5) [30, 10] (ifc (k = 4) [50, 10] (ifc (k = 6) [71, 10] [10]))
noncomputable def tdV (k i v x : Int32) : Int32 := knV k i v x - v
noncomputable def tdT (k : Int32) : List Int32 := 11 :: knT k
noncomputable def drV (k i v x : Int32) : Int32 := ifc (k = 1) (tdV k i v x ^^^ 6) (ifc (k = 4) (tdV k i v (x + 1) ^^^ 6) (ifc (k = 6) (tdV k i v x + (2 + i)) (tdV k i v x)))
noncomputable def drT (k : Int32) : List Int32 := ifc (k = 1) (20 :: tdT k) (ifc (k = 4) (51 :: 20 :: tdT k) (ifc (k = 6) (70 :: (tdT k ++ [10])) (tdT k)))
noncomputable def ttV (k i v x : Int32) : Int32 := drV k i v x * 2
noncomputable def ttT (k : Int32) : List Int32 := 12 :: drT k
noncomputable def teV (k i v x : Int32) : Int32 := ifc (k = 3 ∨ k = 6) (ttV k i v x + drV k i v 1) (ifc (k = 5) (ttV k i v (x - i)) (ttV k i v x))
noncomputable def teT (k : Int32) : List Int32 := ifc (k = 3 ∨ k = 6) (40 :: (ttT k ++ drT k)) (ifc (k = 5) (60 :: ttT k) (ttT k))
theorem knT_len (k : Int32) : (knT k).length ≤ 2 := by
  unfold knT
  by_cases h : k = 2 ∨ k = 5
  · rw [ifc_t h]; decide
  · rw [ifc_f h]
    by_cases h2 : k = 4
    · rw [ifc_t h2]; decide
    · rw [ifc_f h2]
      by_cases h3 : k = 6
      · rw [ifc_t h3]; decide
      · rw [ifc_f h3]; decide
theorem tdT_len (k : Int32) : (tdT k).length ≤ 3 := by
  have := knT_len k
  show (knT k).length + 1 ≤ 3
  omega
theorem drT_len (k : Int32) : (drT k).length ≤ 5 := by
  have := tdT_len k
  unfold drT
  by_cases h : k = 1
  · rw [ifc_t h]; simp only [List.length_cons]; omega
  · rw [ifc_f h]
    by_cases h2 : k = 4
    · rw [ifc_t h2]; simp only [List.length_cons]; omega
    · rw [ifc_f h2]
      by_cases h3 : k = 6
      · rw [ifc_t h3]; simp only [List.length_cons, List.length_append, List.length_nil]; omega
      · rw [ifc_f h3]; omega
theorem ttT_len (k : Int32) : (ttT k).length ≤ 6 := by
  have := drT_len k
  show (drT k).length + 1 ≤ 6
  omega
theorem lenb {rn k : Nat} (h : rn < 900) (hk : k ≤ 20) : rn + k < 1000 := by omega
set_option maxRecDepth 100000 in
set_option maxHeartbeats 400000 in
theorem c_X9_body {g : Gl} {I : Ty} {L : TL} {na nt ni m : Nat} {nl : Nat → Nat} (b : Int32) (rn : Nat) (hrn : rn < 1000) (hre : I 65 67 = nI rn) : Ct g yX9_body cX9_body 2 none 0 0 0 [.ref (g.1 + 65), .int b] I L (RT na nt ni) (NT nl) (NB + m) (Ps none (mbody I rn b) L (RT na nt ni) (NT nl) (NB + m)) := by
  refine ct_of (by decide +kernel) (Nat.le_of_ble_eq_true rfl) (fun F hnm hr => ?_)
  clear hnm
  show V g F cX9_body RX9 2 0 0 [(0, .ref (g.1 + 65)), (1, .int b)] [] I L (RT na nt ni) (NT nl) (NB + m) 0 0
  refine v_aload_n dX9_body_0 rfl 0 rfl ?_
  refine v_get (v := .int (I 65 67)) fa_X9_214 dX9_body_1 rfl (by decide) (ltn rfl) rfl ?_
  refine v_is hre ?_
  refine v_bipush (v := 20) dX9_body_4 (by decide) ?_
  refine v_icmp_geN (a := rn) (b := 20) (tgt := 19) dX9_body_6 (by decide) rfl rfl (by omega) (by omega) (fun h1 => ?_) (fun h1 => ?_)
  · -- rn ge 20
    refine v_aload_n dX9_body_19 rfl 0 rfl ?_
    refine v_dup dX9_body_20 rfl ?_
    refine v_get (v := .int (I 65 67)) fa_X9_214 dX9_body_21 rfl (by decide) (ltn rfl) rfl ?_
    refine v_is hre ?_
    refine v_iconst (v := 1) dX9_body_24 (by decide) ?_
    refine v_iadd dX9_body_25 ?_
    refine v_is (nx_add rfl rfl) ?_
    refine v_puti pa_X9_214 dX9_body_26 rfl (by decide) (ltn rfl) (by show 67 < 73; decide) rfl ?_
    exact v_vret hr dX9_body_29 (psv (by unfold mbody; first | (rw [ifc_t (by omega)]; done) | (rw [ifc_f (by omega)]; done)))
  · -- rn lt 20
    refine v_aload_n dX9_body_9 rfl 0 rfl ?_
    refine v_get (v := .ref (g.1 + 111)) fa_X9_217 dX9_body_10 rfl (by decide) (ltn rfl) rfl ?_
    refine v_aload_n dX9_body_13 rfl 0 rfl ?_
    refine v_get (v := .int (I 65 67)) fa_X9_214 dX9_body_14 rfl (by decide) (ltn rfl) rfl ?_
    refine v_is hre ?_
    refine v_iload_n dX9_body_17 rfl 1 rfl ?_
    refine v_iastore (len := 20) (j := rn) dX9_body_18 rfl (ltn rfl) rfl (by decide) rfl (by omega) ?_
    refine v_aload_n dX9_body_19 rfl 0 rfl ?_
    refine v_dup dX9_body_20 rfl ?_
    refine v_get (v := .int (I 65 67)) fa_X9_214 dX9_body_21 rfl (by decide) (ltn rfl) rfl ?_
    refine v_is hre ?_
    refine v_iconst (v := 1) dX9_body_24 (by decide) ?_
    refine v_iadd dX9_body_25 ?_
    refine v_is (nx_add rfl rfl) ?_
    refine v_puti pa_X9_214 dX9_body_26 rfl (by decide) (ltn rfl) (by show 67 < 73; decide) rfl ?_
    exact v_vret hr dX9_body_29 (psv (by unfold mbody; first | (rw [ifc_t (by omega)]; done) | (rw [ifc_f (by omega)]; done)))
set_option maxRecDepth 100000 in
set_option maxHeartbeats 400000 in
theorem c_X9_travellerKnocks {g : Gl} {I : Ty} {L : TL} {na nt ni m : Nat} {nl : Nat → Nat} (i : Nat) (x : Int32) (rn : Nat) (hrn : rn < 1000) (hre : I 65 67 = nI rn) (hp : i < 6) (k v : Int32) (hk : I 67 i = k) (hv : I 68 i = v) : Ct g yX9_travellerKnocks cX9_travellerKnocks 3 (some .int) 1 0 0 [.ref (g.1 + 65), .int (nI i), .int x] I L (RT na nt ni) (NT nl) (NB + m) (Ps (some (.int (x + nI i))) (mtr I rn ([10])) L (RT na nt ni) (NT nl) (NB + m)) := by
  refine ct_of (by decide +kernel) (Nat.le_of_ble_eq_true rfl) (fun F hnm hr => ?_)
  clear hnm
  show V g F cX9_travellerKnocks RX9 3 1 0 [(0, .ref (g.1 + 65)), (1, .int (nI i)), (2, .int x)] [] I L (RT na nt ni) (NT nl) (NB + m) 0 0
  refine v_aload_n dX9_travellerKnocks_0 rfl 0 rfl ?_
  refine v_bipush (v := 10) dX9_travellerKnocks_1 (by decide) ?_
  refine v_callVv (As := [.int 10]) (rest := []) lk_X9_413 (c_X9_body (I := I) 10 rn (by omega) hre) dX9_travellerKnocks_3 rfl (ltn rfl) rfl rfl (Nat.le_of_ble_eq_true rfl) (by decide) ?_
  refine v_iload_n dX9_travellerKnocks_6 rfl 2 rfl ?_
  refine v_iload_n dX9_travellerKnocks_7 rfl 1 rfl ?_
  refine v_iadd dX9_travellerKnocks_8 ?_
  exact v_iret hr dX9_travellerKnocks_9 (psi (by first | rfl | (simp only [bq, ifc_T, ifc_F, inr_m1, and_true, true_and, and_false, false_and, or_true, true_or, or_false, false_or, not_true_eq_false, not_false_eq_true, and_self, or_self, knV, knT, tdV, tdT, drV, drT, ttV, ttT, teV, teT, mtr, List.cons_append, List.nil_append, List.append_assoc]; done) | (simp [bq, ifc_T, ifc_F, inr_m1, knV, knT, tdV, tdT, drV, drT, ttV, ttT, teV, teT, mtr, List.cons_append, List.nil_append, List.append_assoc]; done) | ((try simp only [bq, knV, knT, tdV, tdT, drV, drT, ttV, ttT, teV, teT, mtr, List.cons_append, List.nil_append, List.append_assoc]); repeat (first | rfl | (refine eq_t ?_ ?_; focus (first | omega | assumption | (simp [inr_m1]; done) | (simp [inr_m1]; omega) | (clear hr; (try clear hkn); simp_all; done))) | (refine eq_f ?_ ?_; focus (first | omega | assumption | (simp [inr_m1]; done) | (simp [inr_m1]; omega) | (clear hr; (try clear hkn); simp_all; done))) | (exfalso; clear hr; (try clear hkn); simp_all; done)))) (by first | rfl | (simp only [bq, ifc_T, ifc_F, inr_m1, and_true, true_and, and_false, false_and, or_true, true_or, or_false, false_or, not_true_eq_false, not_false_eq_true, and_self, or_self, knV, knT, tdV, tdT, drV, drT, ttV, ttT, teV, teT, mtr, List.cons_append, List.nil_append, List.append_assoc]; done) | (simp [bq, ifc_T, ifc_F, inr_m1, knV, knT, tdV, tdT, drV, drT, ttV, ttT, teV, teT, mtr, List.cons_append, List.nil_append, List.append_assoc]; done) | ((try simp only [bq, knV, knT, tdV, tdT, drV, drT, ttV, ttT, teV, teT, mtr, List.cons_append, List.nil_append, List.append_assoc]); repeat (first | rfl | (refine eq_t ?_ ?_; focus (first | omega | assumption | (simp [inr_m1]; done) | (simp [inr_m1]; omega) | (clear hr; (try clear hkn); simp_all; done))) | (refine eq_f ?_ ?_; focus (first | omega | assumption | (simp [inr_m1]; done) | (simp [inr_m1]; omega) | (clear hr; (try clear hkn); simp_all; done))) | (exfalso; clear hr; (try clear hkn); simp_all; done)))))
set_option maxRecDepth 100000 in
set_option maxHeartbeats 400000 in
theorem c_X9_knocksAct {g : Gl} {I : Ty} {L : TL} {na nt ni m : Nat} {nl : Nat → Nat} (i : Nat) (x : Int32) (rn : Nat) (hrn : rn < 990) (hre : I 65 67 = nI rn) (hp : i < 6) (k v : Int32) (hk : I 67 i = k) (hv : I 68 i = v) : Ct g yX9_knocksAct cX9_knocksAct 3 (some .int) 2 0 0 [.ref (g.1 + 65), .int (nI i), .int x] I L (RT na nt ni) (NT nl) (NB + m) (Ps (some (.int (knV k (nI i) v x))) (mtr I rn (knT k)) L (RT na nt ni) (NT nl) (NB + m)) := by
  refine ct_of (by decide +kernel) (Nat.le_of_ble_eq_true rfl) (fun F hnm hr => ?_)
  clear hnm
  show V g F cX9_knocksAct RX9 3 2 0 [(0, .ref (g.1 + 65)), (1, .int (nI i)), (2, .int x)] [] I L (RT na nt ni) (NT nl) (NB + m) 0 0
  refine v_aload_n dX9_knocksAct_0 rfl 0 rfl ?_
  refine v_get (v := .ref (g.1 + 67)) fa_X9_20 dX9_knocksAct_1 rfl (by decide) (ltn rfl) rfl ?_
  refine v_iload_n dX9_knocksAct_4 rfl 1 rfl ?_
  refine v_iaload (len := 6) (j := i) dX9_knocksAct_5 rfl (ltn rfl) rfl (by decide) rfl (by omega) ?_
  refine v_is (y := k) hk ?_
  by_cases k1_2 : k = 2
  · refine v_is k1_2 ?_
    refine v_tabIn (off := 34) (tgt := 40) dX9_knocksAct_6 (by decide) (by decide) (by decide) (by decide) ?_
    refine v_aload_n dX9_knocksAct_40 rfl 0 rfl ?_
    refine v_bipush (v := 30) dX9_knocksAct_41 (by decide) ?_
    refine v_callVv (As := [.int 30]) (rest := []) lk_X9_413 (c_X9_body (I := I) 30 rn (by omega) hre) dX9_knocksAct_43 rfl (ltn rfl) rfl rfl (Nat.le_of_ble_eq_true rfl) (by decide) ?_
    refine v_aload_n dX9_knocksAct_46 rfl 0 rfl ?_
    refine v_iload_n dX9_knocksAct_47 rfl 1 rfl ?_
    refine v_iload_n dX9_knocksAct_48 rfl 2 rfl ?_
    refine v_iconst (v := 3) dX9_knocksAct_49 (by decide) ?_
    refine v_imul dX9_knocksAct_50 ?_
    refine v_callVi (As := [.int (nI i), .int (x * 3)]) (rest := []) lk_X9_416 (c_X9_travellerKnocks (I := (mtr I rn [30])) i (x * 3) (rn + (List.length [30])) (by have := knT_len k; have := drT_len k; have := tdT_len k; have := ttT_len k; simp only [List.length_append, List.length_cons, List.length_nil] at *; omega) (mtr_ran _ _ _ hre) (by omega) k v ((congrFun (mtr_off _ _ _ _ (by decide) (by decide)) _).trans hk) ((congrFun (mtr_off _ _ _ _ (by decide) (by decide)) _).trans hv)) dX9_knocksAct_51 rfl (ltn rfl) rfl rfl (Nat.le_of_ble_eq_true rfl) (by decide) ?_
    refine v_I (mtr_app [30] ([10]) I rn) ?_
    exact v_iret hr dX9_knocksAct_54 (psi (by first | rfl | (simp only [bq, ifc_T, ifc_F, inr_m1, and_true, true_and, and_false, false_and, or_true, true_or, or_false, false_or, not_true_eq_false, not_false_eq_true, and_self, or_self, k1_2, knV, knT, tdV, tdT, drV, drT, ttV, ttT, teV, teT, mtr, List.cons_append, List.nil_append, List.append_assoc]; done) | (simp [bq, ifc_T, ifc_F, inr_m1, k1_2, knV, knT, tdV, tdT, drV, drT, ttV, ttT, teV, teT, mtr, List.cons_append, List.nil_append, List.append_assoc]; done) | ((try simp only [bq, knV, knT, tdV, tdT, drV, drT, ttV, ttT, teV, teT, mtr, List.cons_append, List.nil_append, List.append_assoc]); repeat (first | rfl | (refine eq_t ?_ ?_; focus (first | omega | assumption | (simp [inr_m1, k1_2]; done) | (simp [inr_m1, k1_2]; omega) | (clear hr; (try clear hkn); simp_all; done))) | (refine eq_f ?_ ?_; focus (first | omega | assumption | (simp [inr_m1, k1_2]; done) | (simp [inr_m1, k1_2]; omega) | (clear hr; (try clear hkn); simp_all; done))) | (exfalso; clear hr; (try clear hkn); simp_all; done)))) (by first | rfl | (simp only [bq, ifc_T, ifc_F, inr_m1, and_true, true_and, and_false, false_and, or_true, true_or, or_false, false_or, not_true_eq_false, not_false_eq_true, and_self, or_self, k1_2, knV, knT, tdV, tdT, drV, drT, ttV, ttT, teV, teT, mtr, List.cons_append, List.nil_append, List.append_assoc]; done) | (simp [bq, ifc_T, ifc_F, inr_m1, k1_2, knV, knT, tdV, tdT, drV, drT, ttV, ttT, teV, teT, mtr, List.cons_append, List.nil_append, List.append_assoc]; done) | ((try simp only [bq, knV, knT, tdV, tdT, drV, drT, ttV, ttT, teV, teT, mtr, List.cons_append, List.nil_append, List.append_assoc]); repeat (first | rfl | (refine eq_t ?_ ?_; focus (first | omega | assumption | (simp [inr_m1, k1_2]; done) | (simp [inr_m1, k1_2]; omega) | (clear hr; (try clear hkn); simp_all; done))) | (refine eq_f ?_ ?_; focus (first | omega | assumption | (simp [inr_m1, k1_2]; done) | (simp [inr_m1, k1_2]; omega) | (clear hr; (try clear hkn); simp_all; done))) | (exfalso; clear hr; (try clear hkn); simp_all; done)))))
  by_cases k1_4 : k = 4
  · refine v_is k1_4 ?_
    refine v_tabIn (off := 49) (tgt := 55) dX9_knocksAct_6 (by decide) (by decide) (by decide) (by decide) ?_
    refine v_aload_n dX9_knocksAct_55 rfl 0 rfl ?_
    refine v_bipush (v := 50) dX9_knocksAct_56 (by decide) ?_
    refine v_callVv (As := [.int 50]) (rest := []) lk_X9_413 (c_X9_body (I := I) 50 rn (by omega) hre) dX9_knocksAct_58 rfl (ltn rfl) rfl rfl (Nat.le_of_ble_eq_true rfl) (by decide) ?_
    refine v_aload_n dX9_knocksAct_61 rfl 0 rfl ?_
    refine v_iload_n dX9_knocksAct_62 rfl 1 rfl ?_
    refine v_iload_n dX9_knocksAct_63 rfl 2 rfl ?_
    refine v_callVi (As := [.int (nI i), .int x]) (rest := []) lk_X9_416 (c_X9_travellerKnocks (I := (mtr I rn [50])) i x (rn + (List.length [50])) (by have := knT_len k; have := drT_len k; have := tdT_len k; have := ttT_len k; simp only [List.length_append, List.length_cons, List.length_nil] at *; omega) (mtr_ran _ _ _ hre) (by omega) k v ((congrFun (mtr_off _ _ _ _ (by decide) (by decide)) _).trans hk) ((congrFun (mtr_off _ _ _ _ (by decide) (by decide)) _).trans hv)) dX9_knocksAct_64 rfl (ltn rfl) rfl rfl (Nat.le_of_ble_eq_true rfl) (by decide) ?_
    refine v_I (mtr_app [50] ([10]) I rn) ?_
    refine v_ineg dX9_knocksAct_67 ?_
    exact v_iret hr dX9_knocksAct_68 (psi (by first | rfl | (simp only [bq, ifc_T, ifc_F, inr_m1, and_true, true_and, and_false, false_and, or_true, true_or, or_false, false_or, not_true_eq_false, not_false_eq_true, and_self, or_self, k1_4, knV, knT, tdV, tdT, drV, drT, ttV, ttT, teV, teT, mtr, List.cons_append, List.nil_append, List.append_assoc]; done) | (simp [bq, ifc_T, ifc_F, inr_m1, k1_4, knV, knT, tdV, tdT, drV, drT, ttV, ttT, teV, teT, mtr, List.cons_append, List.nil_append, List.append_assoc]; done) | ((try simp only [bq, knV, knT, tdV, tdT, drV, drT, ttV, ttT, teV, teT, mtr, List.cons_append, List.nil_append, List.append_assoc]); repeat (first | rfl | (refine eq_t ?_ ?_; focus (first | omega | assumption | (simp [inr_m1, k1_4]; done) | (simp [inr_m1, k1_4]; omega) | (clear hr; (try clear hkn); simp_all; done))) | (refine eq_f ?_ ?_; focus (first | omega | assumption | (simp [inr_m1, k1_4]; done) | (simp [inr_m1, k1_4]; omega) | (clear hr; (try clear hkn); simp_all; done))) | (exfalso; clear hr; (try clear hkn); simp_all; done)))) (by first | rfl | (simp only [bq, ifc_T, ifc_F, inr_m1, and_true, true_and, and_false, false_and, or_true, true_or, or_false, false_or, not_true_eq_false, not_false_eq_true, and_self, or_self, k1_4, knV, knT, tdV, tdT, drV, drT, ttV, ttT, teV, teT, mtr, List.cons_append, List.nil_append, List.append_assoc]; done) | (simp [bq, ifc_T, ifc_F, inr_m1, k1_4, knV, knT, tdV, tdT, drV, drT, ttV, ttT, teV, teT, mtr, List.cons_append, List.nil_append, List.append_assoc]; done) | ((try simp only [bq, knV, knT, tdV, tdT, drV, drT, ttV, ttT, teV, teT, mtr, List.cons_append, List.nil_append, List.append_assoc]); repeat (first | rfl | (refine eq_t ?_ ?_; focus (first | omega | assumption | (simp [inr_m1, k1_4]; done) | (simp [inr_m1, k1_4]; omega) | (clear hr; (try clear hkn); simp_all; done))) | (refine eq_f ?_ ?_; focus (first | omega | assumption | (simp [inr_m1, k1_4]; done) | (simp [inr_m1, k1_4]; omega) | (clear hr; (try clear hkn); simp_all; done))) | (exfalso; clear hr; (try clear hkn); simp_all; done)))))
  by_cases k1_5 : k = 5
  · refine v_is k1_5 ?_
    refine v_tabIn (off := 34) (tgt := 40) dX9_knocksAct_6 (by decide) (by decide) (by decide) (by decide) ?_
    refine v_aload_n dX9_knocksAct_40 rfl 0 rfl ?_
    refine v_bipush (v := 30) dX9_knocksAct_41 (by decide) ?_
    refine v_callVv (As := [.int 30]) (rest := []) lk_X9_413 (c_X9_body (I := I) 30 rn (by omega) hre) dX9_knocksAct_43 rfl (ltn rfl) rfl rfl (Nat.le_of_ble_eq_true rfl) (by decide) ?_
    refine v_aload_n dX9_knocksAct_46 rfl 0 rfl ?_
    refine v_iload_n dX9_knocksAct_47 rfl 1 rfl ?_
    refine v_iload_n dX9_knocksAct_48 rfl 2 rfl ?_
    refine v_iconst (v := 3) dX9_knocksAct_49 (by decide) ?_
    refine v_imul dX9_knocksAct_50 ?_
    refine v_callVi (As := [.int (nI i), .int (x * 3)]) (rest := []) lk_X9_416 (c_X9_travellerKnocks (I := (mtr I rn [30])) i (x * 3) (rn + (List.length [30])) (by have := knT_len k; have := drT_len k; have := tdT_len k; have := ttT_len k; simp only [List.length_append, List.length_cons, List.length_nil] at *; omega) (mtr_ran _ _ _ hre) (by omega) k v ((congrFun (mtr_off _ _ _ _ (by decide) (by decide)) _).trans hk) ((congrFun (mtr_off _ _ _ _ (by decide) (by decide)) _).trans hv)) dX9_knocksAct_51 rfl (ltn rfl) rfl rfl (Nat.le_of_ble_eq_true rfl) (by decide) ?_
    refine v_I (mtr_app [30] ([10]) I rn) ?_
    exact v_iret hr dX9_knocksAct_54 (psi (by first | rfl | (simp only [bq, ifc_T, ifc_F, inr_m1, and_true, true_and, and_false, false_and, or_true, true_or, or_false, false_or, not_true_eq_false, not_false_eq_true, and_self, or_self, k1_5, knV, knT, tdV, tdT, drV, drT, ttV, ttT, teV, teT, mtr, List.cons_append, List.nil_append, List.append_assoc]; done) | (simp [bq, ifc_T, ifc_F, inr_m1, k1_5, knV, knT, tdV, tdT, drV, drT, ttV, ttT, teV, teT, mtr, List.cons_append, List.nil_append, List.append_assoc]; done) | ((try simp only [bq, knV, knT, tdV, tdT, drV, drT, ttV, ttT, teV, teT, mtr, List.cons_append, List.nil_append, List.append_assoc]); repeat (first | rfl | (refine eq_t ?_ ?_; focus (first | omega | assumption | (simp [inr_m1, k1_5]; done) | (simp [inr_m1, k1_5]; omega) | (clear hr; (try clear hkn); simp_all; done))) | (refine eq_f ?_ ?_; focus (first | omega | assumption | (simp [inr_m1, k1_5]; done) | (simp [inr_m1, k1_5]; omega) | (clear hr; (try clear hkn); simp_all; done))) | (exfalso; clear hr; (try clear hkn); simp_all; done)))) (by first | rfl | (simp only [bq, ifc_T, ifc_F, inr_m1, and_true, true_and, and_false, false_and, or_true, true_or, or_false, false_or, not_true_eq_false, not_false_eq_true, and_self, or_self, k1_5, knV, knT, tdV, tdT, drV, drT, ttV, ttT, teV, teT, mtr, List.cons_append, List.nil_append, List.append_assoc]; done) | (simp [bq, ifc_T, ifc_F, inr_m1, k1_5, knV, knT, tdV, tdT, drV, drT, ttV, ttT, teV, teT, mtr, List.cons_append, List.nil_append, List.append_assoc]; done) | ((try simp only [bq, knV, knT, tdV, tdT, drV, drT, ttV, ttT, teV, teT, mtr, List.cons_append, List.nil_append, List.append_assoc]); repeat (first | rfl | (refine eq_t ?_ ?_; focus (first | omega | assumption | (simp [inr_m1, k1_5]; done) | (simp [inr_m1, k1_5]; omega) | (clear hr; (try clear hkn); simp_all; done))) | (refine eq_f ?_ ?_; focus (first | omega | assumption | (simp [inr_m1, k1_5]; done) | (simp [inr_m1, k1_5]; omega) | (clear hr; (try clear hkn); simp_all; done))) | (exfalso; clear hr; (try clear hkn); simp_all; done)))))
  by_cases k1_6 : k = 6
  · refine v_is k1_6 ?_
    refine v_tabIn (off := 63) (tgt := 69) dX9_knocksAct_6 (by decide) (by decide) (by decide) (by decide) ?_
    refine v_aload_n dX9_knocksAct_69 rfl 0 rfl ?_
    refine v_bipush (v := 71) dX9_knocksAct_70 (by decide) ?_
    refine v_callVv (As := [.int 71]) (rest := []) lk_X9_413 (c_X9_body (I := I) 71 rn (by omega) hre) dX9_knocksAct_72 rfl (ltn rfl) rfl rfl (Nat.le_of_ble_eq_true rfl) (by decide) ?_
    refine v_aload_n dX9_knocksAct_75 rfl 0 rfl ?_
    refine v_iload_n dX9_knocksAct_76 rfl 1 rfl ?_
    refine v_iload_n dX9_knocksAct_77 rfl 2 rfl ?_
    refine v_callVi (As := [.int (nI i), .int x]) (rest := []) lk_X9_416 (c_X9_travellerKnocks (I := (mtr I rn [71])) i x (rn + (List.length [71])) (by have := knT_len k; have := drT_len k; have := tdT_len k; have := ttT_len k; simp only [List.length_append, List.length_cons, List.length_nil] at *; omega) (mtr_ran _ _ _ hre) (by omega) k v ((congrFun (mtr_off _ _ _ _ (by decide) (by decide)) _).trans hk) ((congrFun (mtr_off _ _ _ _ (by decide) (by decide)) _).trans hv)) dX9_knocksAct_78 rfl (ltn rfl) rfl rfl (Nat.le_of_ble_eq_true rfl) (by decide) ?_
    refine v_I (mtr_app [71] ([10]) I rn) ?_
    refine v_aload_n dX9_knocksAct_81 rfl 0 rfl ?_
    refine v_get (v := .ref (g.1 + 68)) fa_X9_23 dX9_knocksAct_82 rfl (by decide) (ltn rfl) rfl ?_
    refine v_iload_n dX9_knocksAct_85 rfl 1 rfl ?_
    refine v_iaload (len := 6) (j := i) dX9_knocksAct_86 rfl (ltn rfl) rfl (by decide) rfl (by omega) ?_
    refine v_is (y := I 68 i) (by rw [mtr_off _ _ _ _ (by decide) (by decide)]) ?_
    refine v_is (y := v) hv ?_
    refine v_ixor dX9_knocksAct_87 ?_
    exact v_iret hr dX9_knocksAct_88 (psi (by first | rfl | (simp only [bq, ifc_T, ifc_F, inr_m1, and_true, true_and, and_false, false_and, or_true, true_or, or_false, false_or, not_true_eq_false, not_false_eq_true, and_self, or_self, k1_6, knV, knT, tdV, tdT, drV, drT, ttV, ttT, teV, teT, mtr, List.cons_append, List.nil_append, List.append_assoc]; done) | (simp [bq, ifc_T, ifc_F, inr_m1, k1_6, knV, knT, tdV, tdT, drV, drT, ttV, ttT, teV, teT, mtr, List.cons_append, List.nil_append, List.append_assoc]; done) | ((try simp only [bq, knV, knT, tdV, tdT, drV, drT, ttV, ttT, teV, teT, mtr, List.cons_append, List.nil_append, List.append_assoc]); repeat (first | rfl | (refine eq_t ?_ ?_; focus (first | omega | assumption | (simp [inr_m1, k1_6]; done) | (simp [inr_m1, k1_6]; omega) | (clear hr; (try clear hkn); simp_all; done))) | (refine eq_f ?_ ?_; focus (first | omega | assumption | (simp [inr_m1, k1_6]; done) | (simp [inr_m1, k1_6]; omega) | (clear hr; (try clear hkn); simp_all; done))) | (exfalso; clear hr; (try clear hkn); simp_all; done)))) (by first | rfl | (simp only [bq, ifc_T, ifc_F, inr_m1, and_true, true_and, and_false, false_and, or_true, true_or, or_false, false_or, not_true_eq_false, not_false_eq_true, and_self, or_self, k1_6, knV, knT, tdV, tdT, drV, drT, ttV, ttT, teV, teT, mtr, List.cons_append, List.nil_append, List.append_assoc]; done) | (simp [bq, ifc_T, ifc_F, inr_m1, k1_6, knV, knT, tdV, tdT, drV, drT, ttV, ttT, teV, teT, mtr, List.cons_append, List.nil_append, List.append_assoc]; done) | ((try simp only [bq, knV, knT, tdV, tdT, drV, drT, ttV, ttT, teV, teT, mtr, List.cons_append, List.nil_append, List.append_assoc]); repeat (first | rfl | (refine eq_t ?_ ?_; focus (first | omega | assumption | (simp [inr_m1, k1_6]; done) | (simp [inr_m1, k1_6]; omega) | (clear hr; (try clear hkn); simp_all; done))) | (refine eq_f ?_ ?_; focus (first | omega | assumption | (simp [inr_m1, k1_6]; done) | (simp [inr_m1, k1_6]; omega) | (clear hr; (try clear hkn); simp_all; done))) | (exfalso; clear hr; (try clear hkn); simp_all; done)))))
  have t2 : k.toInt < 2 ∨ 6 < k.toInt ∨ k = 3 := by
    rcases sw_out k (2) (6) with h | h | ⟨ha, hb⟩
    · exact Or.inl h
    · exact Or.inr (Or.inl h)
    · refine Or.inr (Or.inr ?_)
      have hz : ∀ z : Int, 2 ≤ z → z ≤ 6 → z = 2 ∨ z = 3 ∨ z = 4 ∨ z = 5 ∨ z = 6 := by omega
      rcases hz _ ha hb with e | e | e | e | e
      · exact absurd (sw_eq (k := 2) e (by decide)) k1_2
      · exact (sw_eq (k := 3) e (by decide))
      · exact absurd (sw_eq (k := 4) e (by decide)) k1_4
      · exact absurd (sw_eq (k := 5) e (by decide)) k1_5
      · exact absurd (sw_eq (k := 6) e (by decide)) k1_6
  have J3 : V g F cX9_knocksAct RX9 3 2 89 [(0, .ref (g.1 + 65)), (1, .int (nI i)), (2, .int x)] [] I L (RT na nt ni) (NT nl) (NB + m) 0 0 := by
    refine v_aload_n dX9_knocksAct_89 rfl 0 rfl ?_
    refine v_iload_n dX9_knocksAct_90 rfl 1 rfl ?_
    refine v_iload_n dX9_knocksAct_91 rfl 2 rfl ?_
    refine v_callVi (As := [.int (nI i), .int x]) (rest := []) lk_X9_416 (c_X9_travellerKnocks (I := I) i x rn (by omega) hre (by omega) k v hk hv) dX9_knocksAct_92 rfl (ltn rfl) rfl rfl (Nat.le_of_ble_eq_true rfl) (by decide) ?_
    exact v_iret hr dX9_knocksAct_95 (psi (by first | rfl | (simp only [bq, ifc_T, ifc_F, inr_m1, and_true, true_and, and_false, false_and, or_true, true_or, or_false, false_or, not_true_eq_false, not_false_eq_true, and_self, or_self, k1_2, k1_4, k1_5, k1_6, knV, knT, tdV, tdT, drV, drT, ttV, ttT, teV, teT, mtr, List.cons_append, List.nil_append, List.append_assoc]; done) | (simp [bq, ifc_T, ifc_F, inr_m1, k1_2, k1_4, k1_5, k1_6, knV, knT, tdV, tdT, drV, drT, ttV, ttT, teV, teT, mtr, List.cons_append, List.nil_append, List.append_assoc]; done) | ((try simp only [bq, knV, knT, tdV, tdT, drV, drT, ttV, ttT, teV, teT, mtr, List.cons_append, List.nil_append, List.append_assoc]); repeat (first | rfl | (refine eq_t ?_ ?_; focus (first | omega | assumption | (simp [inr_m1, k1_2, k1_4, k1_5, k1_6]; done) | (simp [inr_m1, k1_2, k1_4, k1_5, k1_6]; omega) | (clear hr; (try clear hkn); simp_all; done))) | (refine eq_f ?_ ?_; focus (first | omega | assumption | (simp [inr_m1, k1_2, k1_4, k1_5, k1_6]; done) | (simp [inr_m1, k1_2, k1_4, k1_5, k1_6]; omega) | (clear hr; (try clear hkn); simp_all; done))) | (exfalso; clear hr; (try clear hkn); simp_all; done)))) (by first | rfl | (simp only [bq, ifc_T, ifc_F, inr_m1, and_true, true_and, and_false, false_and, or_true, true_or, or_false, false_or, not_true_eq_false, not_false_eq_true, and_self, or_self, k1_2, k1_4, k1_5, k1_6, knV, knT, tdV, tdT, drV, drT, ttV, ttT, teV, teT, mtr, List.cons_append, List.nil_append, List.append_assoc]; done) | (simp [bq, ifc_T, ifc_F, inr_m1, k1_2, k1_4, k1_5, k1_6, knV, knT, tdV, tdT, drV, drT, ttV, ttT, teV, teT, mtr, List.cons_append, List.nil_append, List.append_assoc]; done) | ((try simp only [bq, knV, knT, tdV, tdT, drV, drT, ttV, ttT, teV, teT, mtr, List.cons_append, List.nil_append, List.append_assoc]); repeat (first | rfl | (refine eq_t ?_ ?_; focus (first | omega | assumption | (simp [inr_m1, k1_2, k1_4, k1_5, k1_6]; done) | (simp [inr_m1, k1_2, k1_4, k1_5, k1_6]; omega) | (clear hr; (try clear hkn); simp_all; done))) | (refine eq_f ?_ ?_; focus (first | omega | assumption | (simp [inr_m1, k1_2, k1_4, k1_5, k1_6]; done) | (simp [inr_m1, k1_2, k1_4, k1_5, k1_6]; omega) | (clear hr; (try clear hkn); simp_all; done))) | (exfalso; clear hr; (try clear hkn); simp_all; done)))))
  rcases t2 with t2 | t2 | t2
  · exact v_tabOut (tgt := 89) dX9_knocksAct_6 (Or.inl t2) (by decide) J3
  · exact v_tabOut (tgt := 89) dX9_knocksAct_6 (Or.inr t2) (by decide) J3
  · exact v_is t2 (v_tabIn (off := 83) (tgt := 89) dX9_knocksAct_6 (by decide) (by decide) (by decide) (by decide) J3)
set_option maxRecDepth 100000 in
set_option maxHeartbeats 400000 in
theorem c_X9_travellerDraws {g : Gl} {I : Ty} {L : TL} {na nt ni m : Nat} {nl : Nat → Nat} (i : Nat) (x : Int32) (rn : Nat) (hrn : rn < 980) (hre : I 65 67 = nI rn) (hp : i < 6) (k v : Int32) (hk : I 67 i = k) (hv : I 68 i = v) : Ct g yX9_travellerDraws cX9_travellerDraws 3 (some .int) 3 0 0 [.ref (g.1 + 65), .int (nI i), .int x] I L (RT na nt ni) (NT nl) (NB + m) (Ps (some (.int (tdV k (nI i) v x))) (mtr I rn (tdT k)) L (RT na nt ni) (NT nl) (NB + m)) := by
  refine ct_of (by decide +kernel) (Nat.le_of_ble_eq_true rfl) (fun F hnm hr => ?_)
  clear hnm
  show V g F cX9_travellerDraws RX9 3 3 0 [(0, .ref (g.1 + 65)), (1, .int (nI i)), (2, .int x)] [] I L (RT na nt ni) (NT nl) (NB + m) 0 0
  refine v_aload_n dX9_travellerDraws_0 rfl 0 rfl ?_
  refine v_bipush (v := 11) dX9_travellerDraws_1 (by decide) ?_
  refine v_callVv (As := [.int 11]) (rest := []) lk_X9_413 (c_X9_body (I := I) 11 rn (by omega) hre) dX9_travellerDraws_3 rfl (ltn rfl) rfl rfl (Nat.le_of_ble_eq_true rfl) (by decide) ?_
  refine v_aload_n dX9_travellerDraws_6 rfl 0 rfl ?_
  refine v_iload_n dX9_travellerDraws_7 rfl 1 rfl ?_
  refine v_iload_n dX9_travellerDraws_8 rfl 2 rfl ?_
  refine v_callVi (As := [.int (nI i), .int x]) (rest := []) lk_X9_419 (c_X9_knocksAct (I := (mtr I rn [11])) i x (rn + (List.length [11])) (by have := knT_len k; have := drT_len k; have := tdT_len k; have := ttT_len k; simp only [List.length_append, List.length_cons, List.length_nil] at *; omega) (mtr_ran _ _ _ hre) (by omega) k v ((congrFun (mtr_off _ _ _ _ (by decide) (by decide)) _).trans hk) ((congrFun (mtr_off _ _ _ _ (by decide) (by decide)) _).trans hv)) dX9_travellerDraws_9 rfl (ltn rfl) rfl rfl (Nat.le_of_ble_eq_true rfl) (by decide) ?_
  refine v_I (mtr_app [11] (knT k) I rn) ?_
  refine v_aload_n dX9_travellerDraws_12 rfl 0 rfl ?_
  refine v_get (v := .ref (g.1 + 68)) fa_X9_23 dX9_travellerDraws_13 rfl (by decide) (ltn rfl) rfl ?_
  refine v_iload_n dX9_travellerDraws_16 rfl 1 rfl ?_
  refine v_iaload (len := 6) (j := i) dX9_travellerDraws_17 rfl (ltn rfl) rfl (by decide) rfl (by omega) ?_
  refine v_is (y := I 68 i) (by rw [mtr_off _ _ _ _ (by decide) (by decide)]) ?_
  refine v_is (y := v) hv ?_
  refine v_isub dX9_travellerDraws_18 ?_
  exact v_iret hr dX9_travellerDraws_19 (psi (by first | rfl | (simp only [bq, ifc_T, ifc_F, inr_m1, and_true, true_and, and_false, false_and, or_true, true_or, or_false, false_or, not_true_eq_false, not_false_eq_true, and_self, or_self, knV, knT, tdV, tdT, drV, drT, ttV, ttT, teV, teT, mtr, List.cons_append, List.nil_append, List.append_assoc]; done) | (simp [bq, ifc_T, ifc_F, inr_m1, knV, knT, tdV, tdT, drV, drT, ttV, ttT, teV, teT, mtr, List.cons_append, List.nil_append, List.append_assoc]; done) | ((try simp only [bq, knV, knT, tdV, tdT, drV, drT, ttV, ttT, teV, teT, mtr, List.cons_append, List.nil_append, List.append_assoc]); repeat (first | rfl | (refine eq_t ?_ ?_; focus (first | omega | assumption | (simp [inr_m1]; done) | (simp [inr_m1]; omega) | (clear hr; (try clear hkn); simp_all; done))) | (refine eq_f ?_ ?_; focus (first | omega | assumption | (simp [inr_m1]; done) | (simp [inr_m1]; omega) | (clear hr; (try clear hkn); simp_all; done))) | (exfalso; clear hr; (try clear hkn); simp_all; done)))) (by first | rfl | (simp only [bq, ifc_T, ifc_F, inr_m1, and_true, true_and, and_false, false_and, or_true, true_or, or_false, false_or, not_true_eq_false, not_false_eq_true, and_self, or_self, knV, knT, tdV, tdT, drV, drT, ttV, ttT, teV, teT, mtr, List.cons_append, List.nil_append, List.append_assoc]; done) | (simp [bq, ifc_T, ifc_F, inr_m1, knV, knT, tdV, tdT, drV, drT, ttV, ttT, teV, teT, mtr, List.cons_append, List.nil_append, List.append_assoc]; done) | ((try simp only [bq, knV, knT, tdV, tdT, drV, drT, ttV, ttT, teV, teT, mtr, List.cons_append, List.nil_append, List.append_assoc]); repeat (first | rfl | (refine eq_t ?_ ?_; focus (first | omega | assumption | (simp [inr_m1]; done) | (simp [inr_m1]; omega) | (clear hr; (try clear hkn); simp_all; done))) | (refine eq_f ?_ ?_; focus (first | omega | assumption | (simp [inr_m1]; done) | (simp [inr_m1]; omega) | (clear hr; (try clear hkn); simp_all; done))) | (exfalso; clear hr; (try clear hkn); simp_all; done)))))
set_option maxRecDepth 100000 in
set_option maxHeartbeats 400000 in
theorem c_X9_beautyDraws {g : Gl} {I : Ty} {L : TL} {na nt ni m : Nat} {nl : Nat → Nat} (i : Nat) (x : Int32) (rn : Nat) (hrn : rn < 970) (hre : I 65 67 = nI rn) (hp : i < 6) (k v : Int32) (hk : I 67 i = k) (hv : I 68 i = v) : Ct g yX9_beautyDraws cX9_beautyDraws 3 (some .int) 4 0 0 [.ref (g.1 + 65), .int (nI i), .int x] I L (RT na nt ni) (NT nl) (NB + m) (Ps (some (.int (tdV k (nI i) v x ^^^ 6))) (mtr I rn (20 :: tdT k)) L (RT na nt ni) (NT nl) (NB + m)) := by
  refine ct_of (by decide +kernel) (Nat.le_of_ble_eq_true rfl) (fun F hnm hr => ?_)
  clear hnm
  show V g F cX9_beautyDraws RX9 3 4 0 [(0, .ref (g.1 + 65)), (1, .int (nI i)), (2, .int x)] [] I L (RT na nt ni) (NT nl) (NB + m) 0 0
  refine v_aload_n dX9_beautyDraws_0 rfl 0 rfl ?_
  refine v_bipush (v := 20) dX9_beautyDraws_1 (by decide) ?_
  refine v_callVv (As := [.int 20]) (rest := []) lk_X9_413 (c_X9_body (I := I) 20 rn (by omega) hre) dX9_beautyDraws_3 rfl (ltn rfl) rfl rfl (Nat.le_of_ble_eq_true rfl) (by decide) ?_
  refine v_aload_n dX9_beautyDraws_6 rfl 0 rfl ?_
  refine v_iload_n dX9_beautyDraws_7 rfl 1 rfl ?_
  refine v_iload_n dX9_beautyDraws_8 rfl 2 rfl ?_
  refine v_callVi (As := [.int (nI i), .int x]) (rest := []) lk_X9_422 (c_X9_travellerDraws (I := (mtr I rn [20])) i x (rn + (List.length [20])) (by have := knT_len k; have := drT_len k; have := tdT_len k; have := ttT_len k; simp only [List.length_append, List.length_cons, List.length_nil] at *; omega) (mtr_ran _ _ _ hre) (by omega) k v ((congrFun (mtr_off _ _ _ _ (by decide) (by decide)) _).trans hk) ((congrFun (mtr_off _ _ _ _ (by decide) (by decide)) _).trans hv)) dX9_beautyDraws_9 rfl (ltn rfl) rfl rfl (Nat.le_of_ble_eq_true rfl) (by decide) ?_
  refine v_I (mtr_app [20] (tdT k) I rn) ?_
  refine v_bipush (v := 6) dX9_beautyDraws_12 (by decide) ?_
  refine v_ixor dX9_beautyDraws_14 ?_
  exact v_iret hr dX9_beautyDraws_15 (psi (by first | rfl | (simp only [bq, ifc_T, ifc_F, inr_m1, and_true, true_and, and_false, false_and, or_true, true_or, or_false, false_or, not_true_eq_false, not_false_eq_true, and_self, or_self, knV, knT, tdV, tdT, drV, drT, ttV, ttT, teV, teT, mtr, List.cons_append, List.nil_append, List.append_assoc]; done) | (simp [bq, ifc_T, ifc_F, inr_m1, knV, knT, tdV, tdT, drV, drT, ttV, ttT, teV, teT, mtr, List.cons_append, List.nil_append, List.append_assoc]; done) | ((try simp only [bq, knV, knT, tdV, tdT, drV, drT, ttV, ttT, teV, teT, mtr, List.cons_append, List.nil_append, List.append_assoc]); repeat (first | rfl | (refine eq_t ?_ ?_; focus (first | omega | assumption | (simp [inr_m1]; done) | (simp [inr_m1]; omega) | (clear hr; (try clear hkn); simp_all; done))) | (refine eq_f ?_ ?_; focus (first | omega | assumption | (simp [inr_m1]; done) | (simp [inr_m1]; omega) | (clear hr; (try clear hkn); simp_all; done))) | (exfalso; clear hr; (try clear hkn); simp_all; done)))) (by first | rfl | (simp only [bq, ifc_T, ifc_F, inr_m1, and_true, true_and, and_false, false_and, or_true, true_or, or_false, false_or, not_true_eq_false, not_false_eq_true, and_self, or_self, knV, knT, tdV, tdT, drV, drT, ttV, ttT, teV, teT, mtr, List.cons_append, List.nil_append, List.append_assoc]; done) | (simp [bq, ifc_T, ifc_F, inr_m1, knV, knT, tdV, tdT, drV, drT, ttV, ttT, teV, teT, mtr, List.cons_append, List.nil_append, List.append_assoc]; done) | ((try simp only [bq, knV, knT, tdV, tdT, drV, drT, ttV, ttT, teV, teT, mtr, List.cons_append, List.nil_append, List.append_assoc]); repeat (first | rfl | (refine eq_t ?_ ?_; focus (first | omega | assumption | (simp [inr_m1]; done) | (simp [inr_m1]; omega) | (clear hr; (try clear hkn); simp_all; done))) | (refine eq_f ?_ ?_; focus (first | omega | assumption | (simp [inr_m1]; done) | (simp [inr_m1]; omega) | (clear hr; (try clear hkn); simp_all; done))) | (exfalso; clear hr; (try clear hkn); simp_all; done)))))
set_option maxRecDepth 100000 in
set_option maxHeartbeats 400000 in
theorem c_X9_drawsAct {g : Gl} {I : Ty} {L : TL} {na nt ni m : Nat} {nl : Nat → Nat} (i : Nat) (x : Int32) (rn : Nat) (hrn : rn < 960) (hre : I 65 67 = nI rn) (hp : i < 6) (k v : Int32) (hk : I 67 i = k) (hv : I 68 i = v) : Ct g yX9_drawsAct cX9_drawsAct 4 (some .int) 5 0 0 [.ref (g.1 + 65), .int (nI i), .int x] I L (RT na nt ni) (NT nl) (NB + m) (Ps (some (.int (drV k (nI i) v x))) (mtr I rn (drT k)) L (RT na nt ni) (NT nl) (NB + m)) := by
  refine ct_of (by decide +kernel) (Nat.le_of_ble_eq_true rfl) (fun F hnm hr => ?_)
  clear hnm
  show V g F cX9_drawsAct RX9 4 5 0 [(0, .ref (g.1 + 65)), (1, .int (nI i)), (2, .int x)] [] I L (RT na nt ni) (NT nl) (NB + m) 0 0
  refine v_aload_n dX9_drawsAct_0 rfl 0 rfl ?_
  refine v_get (v := .ref (g.1 + 67)) fa_X9_20 dX9_drawsAct_1 rfl (by decide) (ltn rfl) rfl ?_
  refine v_iload_n dX9_drawsAct_4 rfl 1 rfl ?_
  refine v_iaload (len := 6) (j := i) dX9_drawsAct_5 rfl (ltn rfl) rfl (by decide) rfl (by omega) ?_
  refine v_is (y := k) hk ?_
  by_cases k1_1 : k = 1
  · refine v_is k1_1 ?_
    refine v_look (off := 34) (tgt := 40) dX9_drawsAct_6 (by decide) (by decide) (by decide) ?_
    refine v_aload_n dX9_drawsAct_40 rfl 0 rfl ?_
    refine v_iload_n dX9_drawsAct_41 rfl 1 rfl ?_
    refine v_iload_n dX9_drawsAct_42 rfl 2 rfl ?_
    refine v_callVi (As := [.int (nI i), .int x]) (rest := []) lk_X9_425 (c_X9_beautyDraws (I := I) i x rn (by omega) hre (by omega) k v hk hv) dX9_drawsAct_43 rfl (ltn rfl) rfl rfl (Nat.le_of_ble_eq_true rfl) (by decide) ?_
    exact v_iret hr dX9_drawsAct_46 (psi (by first | rfl | (simp only [bq, ifc_T, ifc_F, inr_m1, and_true, true_and, and_false, false_and, or_true, true_or, or_false, false_or, not_true_eq_false, not_false_eq_true, and_self, or_self, k1_1, knV, knT, tdV, tdT, drV, drT, ttV, ttT, teV, teT, mtr, List.cons_append, List.nil_append, List.append_assoc]; done) | (simp [bq, ifc_T, ifc_F, inr_m1, k1_1, knV, knT, tdV, tdT, drV, drT, ttV, ttT, teV, teT, mtr, List.cons_append, List.nil_append, List.append_assoc]; done) | ((try simp only [bq, knV, knT, tdV, tdT, drV, drT, ttV, ttT, teV, teT, mtr, List.cons_append, List.nil_append, List.append_assoc]); repeat (first | rfl | (refine eq_t ?_ ?_; focus (first | omega | assumption | (simp [inr_m1, k1_1]; done) | (simp [inr_m1, k1_1]; omega) | (clear hr; (try clear hkn); simp_all; done))) | (refine eq_f ?_ ?_; focus (first | omega | assumption | (simp [inr_m1, k1_1]; done) | (simp [inr_m1, k1_1]; omega) | (clear hr; (try clear hkn); simp_all; done))) | (exfalso; clear hr; (try clear hkn); simp_all; done)))) (by first | rfl | (simp only [bq, ifc_T, ifc_F, inr_m1, and_true, true_and, and_false, false_and, or_true, true_or, or_false, false_or, not_true_eq_false, not_false_eq_true, and_self, or_self, k1_1, knV, knT, tdV, tdT, drV, drT, ttV, ttT, teV, teT, mtr, List.cons_append, List.nil_append, List.append_assoc]; done) | (simp [bq, ifc_T, ifc_F, inr_m1, k1_1, knV, knT, tdV, tdT, drV, drT, ttV, ttT, teV, teT, mtr, List.cons_append, List.nil_append, List.append_assoc]; done) | ((try simp only [bq, knV, knT, tdV, tdT, drV, drT, ttV, ttT, teV, teT, mtr, List.cons_append, List.nil_append, List.append_assoc]); repeat (first | rfl | (refine eq_t ?_ ?_; focus (first | omega | assumption | (simp [inr_m1, k1_1]; done) | (simp [inr_m1, k1_1]; omega) | (clear hr; (try clear hkn); simp_all; done))) | (refine eq_f ?_ ?_; focus (first | omega | assumption | (simp [inr_m1, k1_1]; done) | (simp [inr_m1, k1_1]; omega) | (clear hr; (try clear hkn); simp_all; done))) | (exfalso; clear hr; (try clear hkn); simp_all; done)))))
  by_cases k1_4 : k = 4
  · refine v_is k1_4 ?_
    refine v_look (off := 41) (tgt := 47) dX9_drawsAct_6 (by decide) (by decide) (by decide) ?_
    refine v_aload_n dX9_drawsAct_47 rfl 0 rfl ?_
    refine v_bipush (v := 51) dX9_drawsAct_48 (by decide) ?_
    refine v_callVv (As := [.int 51]) (rest := []) lk_X9_413 (c_X9_body (I := I) 51 rn (by omega) hre) dX9_drawsAct_50 rfl (ltn rfl) rfl rfl (Nat.le_of_ble_eq_true rfl) (by decide) ?_
    refine v_aload_n dX9_drawsAct_53 rfl 0 rfl ?_
    refine v_iload_n dX9_drawsAct_54 rfl 1 rfl ?_
    refine v_iload_n dX9_drawsAct_55 rfl 2 rfl ?_
    refine v_iconst (v := 1) dX9_drawsAct_56 (by decide) ?_
    refine v_iadd dX9_drawsAct_57 ?_
    refine v_callVi (As := [.int (nI i), .int (x + 1)]) (rest := []) lk_X9_425 (c_X9_beautyDraws (I := (mtr I rn [51])) i (x + 1) (rn + (List.length [51])) (by have := knT_len k; have := drT_len k; have := tdT_len k; have := ttT_len k; simp only [List.length_append, List.length_cons, List.length_nil] at *; omega) (mtr_ran _ _ _ hre) (by omega) k v ((congrFun (mtr_off _ _ _ _ (by decide) (by decide)) _).trans hk) ((congrFun (mtr_off _ _ _ _ (by decide) (by decide)) _).trans hv)) dX9_drawsAct_58 rfl (ltn rfl) rfl rfl (Nat.le_of_ble_eq_true rfl) (by decide) ?_
    refine v_I (mtr_app [51] (20 :: tdT k) I rn) ?_
    exact v_iret hr dX9_drawsAct_61 (psi (by first | rfl | (simp only [bq, ifc_T, ifc_F, inr_m1, and_true, true_and, and_false, false_and, or_true, true_or, or_false, false_or, not_true_eq_false, not_false_eq_true, and_self, or_self, k1_4, knV, knT, tdV, tdT, drV, drT, ttV, ttT, teV, teT, mtr, List.cons_append, List.nil_append, List.append_assoc]; done) | (simp [bq, ifc_T, ifc_F, inr_m1, k1_4, knV, knT, tdV, tdT, drV, drT, ttV, ttT, teV, teT, mtr, List.cons_append, List.nil_append, List.append_assoc]; done) | ((try simp only [bq, knV, knT, tdV, tdT, drV, drT, ttV, ttT, teV, teT, mtr, List.cons_append, List.nil_append, List.append_assoc]); repeat (first | rfl | (refine eq_t ?_ ?_; focus (first | omega | assumption | (simp [inr_m1, k1_4]; done) | (simp [inr_m1, k1_4]; omega) | (clear hr; (try clear hkn); simp_all; done))) | (refine eq_f ?_ ?_; focus (first | omega | assumption | (simp [inr_m1, k1_4]; done) | (simp [inr_m1, k1_4]; omega) | (clear hr; (try clear hkn); simp_all; done))) | (exfalso; clear hr; (try clear hkn); simp_all; done)))) (by first | rfl | (simp only [bq, ifc_T, ifc_F, inr_m1, and_true, true_and, and_false, false_and, or_true, true_or, or_false, false_or, not_true_eq_false, not_false_eq_true, and_self, or_self, k1_4, knV, knT, tdV, tdT, drV, drT, ttV, ttT, teV, teT, mtr, List.cons_append, List.nil_append, List.append_assoc]; done) | (simp [bq, ifc_T, ifc_F, inr_m1, k1_4, knV, knT, tdV, tdT, drV, drT, ttV, ttT, teV, teT, mtr, List.cons_append, List.nil_append, List.append_assoc]; done) | ((try simp only [bq, knV, knT, tdV, tdT, drV, drT, ttV, ttT, teV, teT, mtr, List.cons_append, List.nil_append, List.append_assoc]); repeat (first | rfl | (refine eq_t ?_ ?_; focus (first | omega | assumption | (simp [inr_m1, k1_4]; done) | (simp [inr_m1, k1_4]; omega) | (clear hr; (try clear hkn); simp_all; done))) | (refine eq_f ?_ ?_; focus (first | omega | assumption | (simp [inr_m1, k1_4]; done) | (simp [inr_m1, k1_4]; omega) | (clear hr; (try clear hkn); simp_all; done))) | (exfalso; clear hr; (try clear hkn); simp_all; done)))))
  by_cases k1_6 : k = 6
  · refine v_is k1_6 ?_
    refine v_look (off := 56) (tgt := 62) dX9_drawsAct_6 (by decide) (by decide) (by decide) ?_
    refine v_aload_n dX9_drawsAct_62 rfl 0 rfl ?_
    refine v_bipush (v := 70) dX9_drawsAct_63 (by decide) ?_
    refine v_callVv (As := [.int 70]) (rest := []) lk_X9_413 (c_X9_body (I := I) 70 rn (by omega) hre) dX9_drawsAct_65 rfl (ltn rfl) rfl rfl (Nat.le_of_ble_eq_true rfl) (by decide) ?_
    refine v_aload_n dX9_drawsAct_68 rfl 0 rfl ?_
    refine v_iload_n dX9_drawsAct_69 rfl 1 rfl ?_
    refine v_iload_n dX9_drawsAct_70 rfl 2 rfl ?_
    refine v_callVi (As := [.int (nI i), .int x]) (rest := []) lk_X9_422 (c_X9_travellerDraws (I := (mtr I rn [70])) i x (rn + (List.length [70])) (by have := knT_len k; have := drT_len k; have := tdT_len k; have := ttT_len k; simp only [List.length_append, List.length_cons, List.length_nil] at *; omega) (mtr_ran _ _ _ hre) (by omega) k v ((congrFun (mtr_off _ _ _ _ (by decide) (by decide)) _).trans hk) ((congrFun (mtr_off _ _ _ _ (by decide) (by decide)) _).trans hv)) dX9_drawsAct_71 rfl (ltn rfl) rfl rfl (Nat.le_of_ble_eq_true rfl) (by decide) ?_
    refine v_I (mtr_app [70] (tdT k) I rn) ?_
    refine v_istore_n (lv2 := [(3, .int (tdV k (nI i) v x)), (0, .ref (g.1 + 65)), (1, .int (nI i)), (2, .int x)]) dX9_drawsAct_74 rfl (by decide) rfl ?_
    refine v_iload_n dX9_drawsAct_75 rfl 0 rfl ?_
    refine v_aload_n dX9_drawsAct_76 rfl 1 rfl ?_
    refine v_iload_n dX9_drawsAct_77 rfl 2 rfl ?_
    refine v_iconst (v := 2) dX9_drawsAct_78 (by decide) ?_
    refine v_callVi (As := [.int (nI i), .int 2]) (rest := [.int (tdV k (nI i) v x)]) lk_X9_416 (c_X9_travellerKnocks (I := (mtr I rn ([70] ++ (tdT k)))) i 2 (rn + (List.length ([70] ++ (tdT k)))) (by have := knT_len k; have := drT_len k; have := tdT_len k; have := ttT_len k; simp only [List.length_append, List.length_cons, List.length_nil] at *; omega) (mtr_ran _ _ _ hre) (by omega) k v ((congrFun (mtr_off _ _ _ _ (by decide) (by decide)) _).trans hk) ((congrFun (mtr_off _ _ _ _ (by decide) (by decide)) _).trans hv)) dX9_drawsAct_79 rfl (ltn rfl) rfl rfl (Nat.le_of_ble_eq_true rfl) (by decide) ?_
    refine v_I (mtr_app ([70] ++ (tdT k)) ([10]) I rn) ?_
    refine v_iadd dX9_drawsAct_82 ?_
    exact v_iret hr dX9_drawsAct_83 (psi (by first | rfl | (simp only [bq, ifc_T, ifc_F, inr_m1, and_true, true_and, and_false, false_and, or_true, true_or, or_false, false_or, not_true_eq_false, not_false_eq_true, and_self, or_self, k1_6, knV, knT, tdV, tdT, drV, drT, ttV, ttT, teV, teT, mtr, List.cons_append, List.nil_append, List.append_assoc]; done) | (simp [bq, ifc_T, ifc_F, inr_m1, k1_6, knV, knT, tdV, tdT, drV, drT, ttV, ttT, teV, teT, mtr, List.cons_append, List.nil_append, List.append_assoc]; done) | ((try simp only [bq, knV, knT, tdV, tdT, drV, drT, ttV, ttT, teV, teT, mtr, List.cons_append, List.nil_append, List.append_assoc]); repeat (first | rfl | (refine eq_t ?_ ?_; focus (first | omega | assumption | (simp [inr_m1, k1_6]; done) | (simp [inr_m1, k1_6]; omega) | (clear hr; (try clear hkn); simp_all; done))) | (refine eq_f ?_ ?_; focus (first | omega | assumption | (simp [inr_m1, k1_6]; done) | (simp [inr_m1, k1_6]; omega) | (clear hr; (try clear hkn); simp_all; done))) | (exfalso; clear hr; (try clear hkn); simp_all; done)))) (by first | rfl | (simp only [bq, ifc_T, ifc_F, inr_m1, and_true, true_and, and_false, false_and, or_true, true_or, or_false, false_or, not_true_eq_false, not_false_eq_true, and_self, or_self, k1_6, knV, knT, tdV, tdT, drV, drT, ttV, ttT, teV, teT, mtr, List.cons_append, List.nil_append, List.append_assoc]; done) | (simp [bq, ifc_T, ifc_F, inr_m1, k1_6, knV, knT, tdV, tdT, drV, drT, ttV, ttT, teV, teT, mtr, List.cons_append, List.nil_append, List.append_assoc]; done) | ((try simp only [bq, knV, knT, tdV, tdT, drV, drT, ttV, ttT, teV, teT, mtr, List.cons_append, List.nil_append, List.append_assoc]); repeat (first | rfl | (refine eq_t ?_ ?_; focus (first | omega | assumption | (simp [inr_m1, k1_6]; done) | (simp [inr_m1, k1_6]; omega) | (clear hr; (try clear hkn); simp_all; done))) | (refine eq_f ?_ ?_; focus (first | omega | assumption | (simp [inr_m1, k1_6]; done) | (simp [inr_m1, k1_6]; omega) | (clear hr; (try clear hkn); simp_all; done))) | (exfalso; clear hr; (try clear hkn); simp_all; done)))))
  refine v_look (off := 78) (tgt := 84) dX9_drawsAct_6 (by decide) (sw_lk _ _ _ (by intro q hq; have hq : q ∈ ([(1, 34), (4, 41), (6, 56)] : List (Int × Int)) := hq; simp only [List.mem_cons, List.not_mem_nil, or_false] at hq; rcases hq with rfl | rfl | rfl <;> first | exact sw_ne k1_1 (by decide) | exact sw_ne k1_4 (by decide) | exact sw_ne k1_6 (by decide))) (by decide) ?_
  refine v_aload_n dX9_drawsAct_84 rfl 0 rfl ?_
  refine v_iload_n dX9_drawsAct_85 rfl 1 rfl ?_
  refine v_iload_n dX9_drawsAct_86 rfl 2 rfl ?_
  refine v_callVi (As := [.int (nI i), .int x]) (rest := []) lk_X9_422 (c_X9_travellerDraws (I := I) i x rn (by omega) hre (by omega) k v hk hv) dX9_drawsAct_87 rfl (ltn rfl) rfl rfl (Nat.le_of_ble_eq_true rfl) (by decide) ?_
  exact v_iret hr dX9_drawsAct_90 (psi (by first | rfl | (simp only [bq, ifc_T, ifc_F, inr_m1, and_true, true_and, and_false, false_and, or_true, true_or, or_false, false_or, not_true_eq_false, not_false_eq_true, and_self, or_self, k1_1, k1_4, k1_6, knV, knT, tdV, tdT, drV, drT, ttV, ttT, teV, teT, mtr, List.cons_append, List.nil_append, List.append_assoc]; done) | (simp [bq, ifc_T, ifc_F, inr_m1, k1_1, k1_4, k1_6, knV, knT, tdV, tdT, drV, drT, ttV, ttT, teV, teT, mtr, List.cons_append, List.nil_append, List.append_assoc]; done) | ((try simp only [bq, knV, knT, tdV, tdT, drV, drT, ttV, ttT, teV, teT, mtr, List.cons_append, List.nil_append, List.append_assoc]); repeat (first | rfl | (refine eq_t ?_ ?_; focus (first | omega | assumption | (simp [inr_m1, k1_1, k1_4, k1_6]; done) | (simp [inr_m1, k1_1, k1_4, k1_6]; omega) | (clear hr; (try clear hkn); simp_all; done))) | (refine eq_f ?_ ?_; focus (first | omega | assumption | (simp [inr_m1, k1_1, k1_4, k1_6]; done) | (simp [inr_m1, k1_1, k1_4, k1_6]; omega) | (clear hr; (try clear hkn); simp_all; done))) | (exfalso; clear hr; (try clear hkn); simp_all; done)))) (by first | rfl | (simp only [bq, ifc_T, ifc_F, inr_m1, and_true, true_and, and_false, false_and, or_true, true_or, or_false, false_or, not_true_eq_false, not_false_eq_true, and_self, or_self, k1_1, k1_4, k1_6, knV, knT, tdV, tdT, drV, drT, ttV, ttT, teV, teT, mtr, List.cons_append, List.nil_append, List.append_assoc]; done) | (simp [bq, ifc_T, ifc_F, inr_m1, k1_1, k1_4, k1_6, knV, knT, tdV, tdT, drV, drT, ttV, ttT, teV, teT, mtr, List.cons_append, List.nil_append, List.append_assoc]; done) | ((try simp only [bq, knV, knT, tdV, tdT, drV, drT, ttV, ttT, teV, teT, mtr, List.cons_append, List.nil_append, List.append_assoc]); repeat (first | rfl | (refine eq_t ?_ ?_; focus (first | omega | assumption | (simp [inr_m1, k1_1, k1_4, k1_6]; done) | (simp [inr_m1, k1_1, k1_4, k1_6]; omega) | (clear hr; (try clear hkn); simp_all; done))) | (refine eq_f ?_ ?_; focus (first | omega | assumption | (simp [inr_m1, k1_1, k1_4, k1_6]; done) | (simp [inr_m1, k1_1, k1_4, k1_6]; omega) | (clear hr; (try clear hkn); simp_all; done))) | (exfalso; clear hr; (try clear hkn); simp_all; done)))))
set_option maxRecDepth 100000 in
set_option maxHeartbeats 400000 in
theorem c_X9_travellerTells {g : Gl} {I : Ty} {L : TL} {na nt ni m : Nat} {nl : Nat → Nat} (i : Nat) (x : Int32) (rn : Nat) (hrn : rn < 950) (hre : I 65 67 = nI rn) (hp : i < 6) (k v : Int32) (hk : I 67 i = k) (hv : I 68 i = v) : Ct g yX9_travellerTells cX9_travellerTells 3 (some .int) 6 0 0 [.ref (g.1 + 65), .int (nI i), .int x] I L (RT na nt ni) (NT nl) (NB + m) (Ps (some (.int (ttV k (nI i) v x))) (mtr I rn (ttT k)) L (RT na nt ni) (NT nl) (NB + m)) := by
  refine ct_of (by decide +kernel) (Nat.le_of_ble_eq_true rfl) (fun F hnm hr => ?_)
  clear hnm
  show V g F cX9_travellerTells RX9 3 6 0 [(0, .ref (g.1 + 65)), (1, .int (nI i)), (2, .int x)] [] I L (RT na nt ni) (NT nl) (NB + m) 0 0
  refine v_aload_n dX9_travellerTells_0 rfl 0 rfl ?_
  refine v_bipush (v := 12) dX9_travellerTells_1 (by decide) ?_
  refine v_callVv (As := [.int 12]) (rest := []) lk_X9_413 (c_X9_body (I := I) 12 rn (by omega) hre) dX9_travellerTells_3 rfl (ltn rfl) rfl rfl (Nat.le_of_ble_eq_true rfl) (by decide) ?_
  refine v_aload_n dX9_travellerTells_6 rfl 0 rfl ?_
  refine v_iload_n dX9_travellerTells_7 rfl 1 rfl ?_
  refine v_iload_n dX9_travellerTells_8 rfl 2 rfl ?_
  refine v_callVi (As := [.int (nI i), .int x]) (rest := []) lk_X9_428 (c_X9_drawsAct (I := (mtr I rn [12])) i x (rn + (List.length [12])) (by have := knT_len k; have := drT_len k; have := tdT_len k; have := ttT_len k; simp only [List.length_append, List.length_cons, List.length_nil] at *; omega) (mtr_ran _ _ _ hre) (by omega) k v ((congrFun (mtr_off _ _ _ _ (by decide) (by decide)) _).trans hk) ((congrFun (mtr_off _ _ _ _ (by decide) (by decide)) _).trans hv)) dX9_travellerTells_9 rfl (ltn rfl) rfl rfl (Nat.le_of_ble_eq_true rfl) (by decide) ?_
  refine v_I (mtr_app [12] (drT k) I rn) ?_
  refine v_iconst (v := 2) dX9_travellerTells_12 (by decide) ?_
  refine v_imul dX9_travellerTells_13 ?_
  exact v_iret hr dX9_travellerTells_14 (psi (by first | rfl | (simp only [bq, ifc_T, ifc_F, inr_m1, and_true, true_and, and_false, false_and, or_true, true_or, or_false, false_or, not_true_eq_false, not_false_eq_true, and_self, or_self, knV, knT, tdV, tdT, drV, drT, ttV, ttT, teV, teT, mtr, List.cons_append, List.nil_append, List.append_assoc]; done) | (simp [bq, ifc_T, ifc_F, inr_m1, knV, knT, tdV, tdT, drV, drT, ttV, ttT, teV, teT, mtr, List.cons_append, List.nil_append, List.append_assoc]; done) | ((try simp only [bq, knV, knT, tdV, tdT, drV, drT, ttV, ttT, teV, teT, mtr, List.cons_append, List.nil_append, List.append_assoc]); repeat (first | rfl | (refine eq_t ?_ ?_; focus (first | omega | assumption | (simp [inr_m1]; done) | (simp [inr_m1]; omega) | (clear hr; (try clear hkn); simp_all; done))) | (refine eq_f ?_ ?_; focus (first | omega | assumption | (simp [inr_m1]; done) | (simp [inr_m1]; omega) | (clear hr; (try clear hkn); simp_all; done))) | (exfalso; clear hr; (try clear hkn); simp_all; done)))) (by first | rfl | (simp only [bq, ifc_T, ifc_F, inr_m1, and_true, true_and, and_false, false_and, or_true, true_or, or_false, false_or, not_true_eq_false, not_false_eq_true, and_self, or_self, knV, knT, tdV, tdT, drV, drT, ttV, ttT, teV, teT, mtr, List.cons_append, List.nil_append, List.append_assoc]; done) | (simp [bq, ifc_T, ifc_F, inr_m1, knV, knT, tdV, tdT, drV, drT, ttV, ttT, teV, teT, mtr, List.cons_append, List.nil_append, List.append_assoc]; done) | ((try simp only [bq, knV, knT, tdV, tdT, drV, drT, ttV, ttT, teV, teT, mtr, List.cons_append, List.nil_append, List.append_assoc]); repeat (first | rfl | (refine eq_t ?_ ?_; focus (first | omega | assumption | (simp [inr_m1]; done) | (simp [inr_m1]; omega) | (clear hr; (try clear hkn); simp_all; done))) | (refine eq_f ?_ ?_; focus (first | omega | assumption | (simp [inr_m1]; done) | (simp [inr_m1]; omega) | (clear hr; (try clear hkn); simp_all; done))) | (exfalso; clear hr; (try clear hkn); simp_all; done)))))
set_option maxRecDepth 100000 in
set_option maxHeartbeats 400000 in
theorem c_X9_tellsAct {g : Gl} {I : Ty} {L : TL} {na nt ni m : Nat} {nl : Nat → Nat} (i : Nat) (x : Int32) (rn : Nat) (hrn : rn < 940) (hre : I 65 67 = nI rn) (hp : i < 6) (k v : Int32) (hk : I 67 i = k) (hv : I 68 i = v) : Ct g yX9_tellsAct cX9_tellsAct 4 (some .int) 7 0 0 [.ref (g.1 + 65), .int (nI i), .int x] I L (RT na nt ni) (NT nl) (NB + m) (Ps (some (.int (teV k (nI i) v x))) (mtr I rn (teT k)) L (RT na nt ni) (NT nl) (NB + m)) := by
  refine ct_of (by decide +kernel) (Nat.le_of_ble_eq_true rfl) (fun F hnm hr => ?_)
  clear hnm
  show V g F cX9_tellsAct RX9 4 7 0 [(0, .ref (g.1 + 65)), (1, .int (nI i)), (2, .int x)] [] I L (RT na nt ni) (NT nl) (NB + m) 0 0
  refine v_aload_n dX9_tellsAct_0 rfl 0 rfl ?_
  refine v_get (v := .ref (g.1 + 67)) fa_X9_20 dX9_tellsAct_1 rfl (by decide) (ltn rfl) rfl ?_
  refine v_iload_n dX9_tellsAct_4 rfl 1 rfl ?_
  refine v_iaload (len := 6) (j := i) dX9_tellsAct_5 rfl (ltn rfl) rfl (by decide) rfl (by omega) ?_
  refine v_is (y := k) hk ?_
  by_cases k1_3 : k = 3
  · refine v_is k1_3 ?_
    refine v_tabIn (off := 30) (tgt := 36) dX9_tellsAct_6 (by decide) (by decide) (by decide) (by decide) ?_
    refine v_aload_n dX9_tellsAct_36 rfl 0 rfl ?_
    refine v_bipush (v := 40) dX9_tellsAct_37 (by decide) ?_
    refine v_callVv (As := [.int 40]) (rest := []) lk_X9_413 (c_X9_body (I := I) 40 rn (by omega) hre) dX9_tellsAct_39 rfl (ltn rfl) rfl rfl (Nat.le_of_ble_eq_true rfl) (by decide) ?_
    refine v_aload_n dX9_tellsAct_42 rfl 0 rfl ?_
    refine v_iload_n dX9_tellsAct_43 rfl 1 rfl ?_
    refine v_iload_n dX9_tellsAct_44 rfl 2 rfl ?_
    refine v_callVi (As := [.int (nI i), .int x]) (rest := []) lk_X9_431 (c_X9_travellerTells (I := (mtr I rn [40])) i x (rn + (List.length [40])) (by have := knT_len k; have := drT_len k; have := tdT_len k; have := ttT_len k; simp only [List.length_append, List.length_cons, List.length_nil] at *; omega) (mtr_ran _ _ _ hre) (by omega) k v ((congrFun (mtr_off _ _ _ _ (by decide) (by decide)) _).trans hk) ((congrFun (mtr_off _ _ _ _ (by decide) (by decide)) _).trans hv)) dX9_tellsAct_45 rfl (ltn rfl) rfl rfl (Nat.le_of_ble_eq_true rfl) (by decide) ?_
    refine v_I (mtr_app [40] (ttT k) I rn) ?_
    refine v_istore_n (lv2 := [(3, .int (ttV k (nI i) v x)), (0, .ref (g.1 + 65)), (1, .int (nI i)), (2, .int x)]) dX9_tellsAct_48 rfl (by decide) rfl ?_
    refine v_iload_n dX9_tellsAct_49 rfl 0 rfl ?_
    refine v_aload_n dX9_tellsAct_50 rfl 1 rfl ?_
    refine v_iload_n dX9_tellsAct_51 rfl 2 rfl ?_
    refine v_iconst (v := 1) dX9_tellsAct_52 (by decide) ?_
    refine v_callVi (As := [.int (nI i), .int 1]) (rest := [.int (ttV k (nI i) v x)]) lk_X9_428 (c_X9_drawsAct (I := (mtr I rn ([40] ++ (ttT k)))) i 1 (rn + (List.length ([40] ++ (ttT k)))) (by have := knT_len k; have := drT_len k; have := tdT_len k; have := ttT_len k; simp only [List.length_append, List.length_cons, List.length_nil] at *; omega) (mtr_ran _ _ _ hre) (by omega) k v ((congrFun (mtr_off _ _ _ _ (by decide) (by decide)) _).trans hk) ((congrFun (mtr_off _ _ _ _ (by decide) (by decide)) _).trans hv)) dX9_tellsAct_53 rfl (ltn rfl) rfl rfl (Nat.le_of_ble_eq_true rfl) (by decide) ?_
    refine v_I (mtr_app ([40] ++ (ttT k)) (drT k) I rn) ?_
    refine v_iadd dX9_tellsAct_56 ?_
    exact v_iret hr dX9_tellsAct_57 (psi (by first | rfl | (simp only [bq, ifc_T, ifc_F, inr_m1, and_true, true_and, and_false, false_and, or_true, true_or, or_false, false_or, not_true_eq_false, not_false_eq_true, and_self, or_self, k1_3, knV, knT, tdV, tdT, drV, drT, ttV, ttT, teV, teT, mtr, List.cons_append, List.nil_append, List.append_assoc]; done) | (simp [bq, ifc_T, ifc_F, inr_m1, k1_3, knV, knT, tdV, tdT, drV, drT, ttV, ttT, teV, teT, mtr, List.cons_append, List.nil_append, List.append_assoc]; done) | ((try simp only [bq, knV, knT, tdV, tdT, drV, drT, ttV, ttT, teV, teT, mtr, List.cons_append, List.nil_append, List.append_assoc]); repeat (first | rfl | (refine eq_t ?_ ?_; focus (first | omega | assumption | (simp [inr_m1, k1_3]; done) | (simp [inr_m1, k1_3]; omega) | (clear hr; (try clear hkn); simp_all; done))) | (refine eq_f ?_ ?_; focus (first | omega | assumption | (simp [inr_m1, k1_3]; done) | (simp [inr_m1, k1_3]; omega) | (clear hr; (try clear hkn); simp_all; done))) | (exfalso; clear hr; (try clear hkn); simp_all; done)))) (by first | rfl | (simp only [bq, ifc_T, ifc_F, inr_m1, and_true, true_and, and_false, false_and, or_true, true_or, or_false, false_or, not_true_eq_false, not_false_eq_true, and_self, or_self, k1_3, knV, knT, tdV, tdT, drV, drT, ttV, ttT, teV, teT, mtr, List.cons_append, List.nil_append, List.append_assoc]; done) | (simp [bq, ifc_T, ifc_F, inr_m1, k1_3, knV, knT, tdV, tdT, drV, drT, ttV, ttT, teV, teT, mtr, List.cons_append, List.nil_append, List.append_assoc]; done) | ((try simp only [bq, knV, knT, tdV, tdT, drV, drT, ttV, ttT, teV, teT, mtr, List.cons_append, List.nil_append, List.append_assoc]); repeat (first | rfl | (refine eq_t ?_ ?_; focus (first | omega | assumption | (simp [inr_m1, k1_3]; done) | (simp [inr_m1, k1_3]; omega) | (clear hr; (try clear hkn); simp_all; done))) | (refine eq_f ?_ ?_; focus (first | omega | assumption | (simp [inr_m1, k1_3]; done) | (simp [inr_m1, k1_3]; omega) | (clear hr; (try clear hkn); simp_all; done))) | (exfalso; clear hr; (try clear hkn); simp_all; done)))))
  by_cases k1_5 : k = 5
  · refine v_is k1_5 ?_
    refine v_tabIn (off := 52) (tgt := 58) dX9_tellsAct_6 (by decide) (by decide) (by decide) (by decide) ?_
    refine v_aload_n dX9_tellsAct_58 rfl 0 rfl ?_
    refine v_bipush (v := 60) dX9_tellsAct_59 (by decide) ?_
    refine v_callVv (As := [.int 60]) (rest := []) lk_X9_413 (c_X9_body (I := I) 60 rn (by omega) hre) dX9_tellsAct_61 rfl (ltn rfl) rfl rfl (Nat.le_of_ble_eq_true rfl) (by decide) ?_
    refine v_aload_n dX9_tellsAct_64 rfl 0 rfl ?_
    refine v_iload_n dX9_tellsAct_65 rfl 1 rfl ?_
    refine v_iload_n dX9_tellsAct_66 rfl 2 rfl ?_
    refine v_iload_n dX9_tellsAct_67 rfl 1 rfl ?_
    refine v_isub dX9_tellsAct_68 ?_
    refine v_callVi (As := [.int (nI i), .int (x - nI i)]) (rest := []) lk_X9_431 (c_X9_travellerTells (I := (mtr I rn [60])) i (x - nI i) (rn + (List.length [60])) (by have := knT_len k; have := drT_len k; have := tdT_len k; have := ttT_len k; simp only [List.length_append, List.length_cons, List.length_nil] at *; omega) (mtr_ran _ _ _ hre) (by omega) k v ((congrFun (mtr_off _ _ _ _ (by decide) (by decide)) _).trans hk) ((congrFun (mtr_off _ _ _ _ (by decide) (by decide)) _).trans hv)) dX9_tellsAct_69 rfl (ltn rfl) rfl rfl (Nat.le_of_ble_eq_true rfl) (by decide) ?_
    refine v_I (mtr_app [60] (ttT k) I rn) ?_
    exact v_iret hr dX9_tellsAct_72 (psi (by first | rfl | (simp only [bq, ifc_T, ifc_F, inr_m1, and_true, true_and, and_false, false_and, or_true, true_or, or_false, false_or, not_true_eq_false, not_false_eq_true, and_self, or_self, k1_5, knV, knT, tdV, tdT, drV, drT, ttV, ttT, teV, teT, mtr, List.cons_append, List.nil_append, List.append_assoc]; done) | (simp [bq, ifc_T, ifc_F, inr_m1, k1_5, knV, knT, tdV, tdT, drV, drT, ttV, ttT, teV, teT, mtr, List.cons_append, List.nil_append, List.append_assoc]; done) | ((try simp only [bq, knV, knT, tdV, tdT, drV, drT, ttV, ttT, teV, teT, mtr, List.cons_append, List.nil_append, List.append_assoc]); repeat (first | rfl | (refine eq_t ?_ ?_; focus (first | omega | assumption | (simp [inr_m1, k1_5]; done) | (simp [inr_m1, k1_5]; omega) | (clear hr; (try clear hkn); simp_all; done))) | (refine eq_f ?_ ?_; focus (first | omega | assumption | (simp [inr_m1, k1_5]; done) | (simp [inr_m1, k1_5]; omega) | (clear hr; (try clear hkn); simp_all; done))) | (exfalso; clear hr; (try clear hkn); simp_all; done)))) (by first | rfl | (simp only [bq, ifc_T, ifc_F, inr_m1, and_true, true_and, and_false, false_and, or_true, true_or, or_false, false_or, not_true_eq_false, not_false_eq_true, and_self, or_self, k1_5, knV, knT, tdV, tdT, drV, drT, ttV, ttT, teV, teT, mtr, List.cons_append, List.nil_append, List.append_assoc]; done) | (simp [bq, ifc_T, ifc_F, inr_m1, k1_5, knV, knT, tdV, tdT, drV, drT, ttV, ttT, teV, teT, mtr, List.cons_append, List.nil_append, List.append_assoc]; done) | ((try simp only [bq, knV, knT, tdV, tdT, drV, drT, ttV, ttT, teV, teT, mtr, List.cons_append, List.nil_append, List.append_assoc]); repeat (first | rfl | (refine eq_t ?_ ?_; focus (first | omega | assumption | (simp [inr_m1, k1_5]; done) | (simp [inr_m1, k1_5]; omega) | (clear hr; (try clear hkn); simp_all; done))) | (refine eq_f ?_ ?_; focus (first | omega | assumption | (simp [inr_m1, k1_5]; done) | (simp [inr_m1, k1_5]; omega) | (clear hr; (try clear hkn); simp_all; done))) | (exfalso; clear hr; (try clear hkn); simp_all; done)))))
  by_cases k1_6 : k = 6
  · refine v_is k1_6 ?_
    refine v_tabIn (off := 30) (tgt := 36) dX9_tellsAct_6 (by decide) (by decide) (by decide) (by decide) ?_
    refine v_aload_n dX9_tellsAct_36 rfl 0 rfl ?_
    refine v_bipush (v := 40) dX9_tellsAct_37 (by decide) ?_
    refine v_callVv (As := [.int 40]) (rest := []) lk_X9_413 (c_X9_body (I := I) 40 rn (by omega) hre) dX9_tellsAct_39 rfl (ltn rfl) rfl rfl (Nat.le_of_ble_eq_true rfl) (by decide) ?_
    refine v_aload_n dX9_tellsAct_42 rfl 0 rfl ?_
    refine v_iload_n dX9_tellsAct_43 rfl 1 rfl ?_
    refine v_iload_n dX9_tellsAct_44 rfl 2 rfl ?_
    refine v_callVi (As := [.int (nI i), .int x]) (rest := []) lk_X9_431 (c_X9_travellerTells (I := (mtr I rn [40])) i x (rn + (List.length [40])) (by have := knT_len k; have := drT_len k; have := tdT_len k; have := ttT_len k; simp only [List.length_append, List.length_cons, List.length_nil] at *; omega) (mtr_ran _ _ _ hre) (by omega) k v ((congrFun (mtr_off _ _ _ _ (by decide) (by decide)) _).trans hk) ((congrFun (mtr_off _ _ _ _ (by decide) (by decide)) _).trans hv)) dX9_tellsAct_45 rfl (ltn rfl) rfl rfl (Nat.le_of_ble_eq_true rfl) (by decide) ?_
    refine v_I (mtr_app [40] (ttT k) I rn) ?_
    refine v_istore_n (lv2 := [(3, .int (ttV k (nI i) v x)), (0, .ref (g.1 + 65)), (1, .int (nI i)), (2, .int x)]) dX9_tellsAct_48 rfl (by decide) rfl ?_
    refine v_iload_n dX9_tellsAct_49 rfl 0 rfl ?_
    refine v_aload_n dX9_tellsAct_50 rfl 1 rfl ?_
    refine v_iload_n dX9_tellsAct_51 rfl 2 rfl ?_
    refine v_iconst (v := 1) dX9_tellsAct_52 (by decide) ?_
    refine v_callVi (As := [.int (nI i), .int 1]) (rest := [.int (ttV k (nI i) v x)]) lk_X9_428 (c_X9_drawsAct (I := (mtr I rn ([40] ++ (ttT k)))) i 1 (rn + (List.length ([40] ++ (ttT k)))) (by have := knT_len k; have := drT_len k; have := tdT_len k; have := ttT_len k; simp only [List.length_append, List.length_cons, List.length_nil] at *; omega) (mtr_ran _ _ _ hre) (by omega) k v ((congrFun (mtr_off _ _ _ _ (by decide) (by decide)) _).trans hk) ((congrFun (mtr_off _ _ _ _ (by decide) (by decide)) _).trans hv)) dX9_tellsAct_53 rfl (ltn rfl) rfl rfl (Nat.le_of_ble_eq_true rfl) (by decide) ?_
    refine v_I (mtr_app ([40] ++ (ttT k)) (drT k) I rn) ?_
    refine v_iadd dX9_tellsAct_56 ?_
    exact v_iret hr dX9_tellsAct_57 (psi (by first | rfl | (simp only [bq, ifc_T, ifc_F, inr_m1, and_true, true_and, and_false, false_and, or_true, true_or, or_false, false_or, not_true_eq_false, not_false_eq_true, and_self, or_self, k1_6, knV, knT, tdV, tdT, drV, drT, ttV, ttT, teV, teT, mtr, List.cons_append, List.nil_append, List.append_assoc]; done) | (simp [bq, ifc_T, ifc_F, inr_m1, k1_6, knV, knT, tdV, tdT, drV, drT, ttV, ttT, teV, teT, mtr, List.cons_append, List.nil_append, List.append_assoc]; done) | ((try simp only [bq, knV, knT, tdV, tdT, drV, drT, ttV, ttT, teV, teT, mtr, List.cons_append, List.nil_append, List.append_assoc]); repeat (first | rfl | (refine eq_t ?_ ?_; focus (first | omega | assumption | (simp [inr_m1, k1_6]; done) | (simp [inr_m1, k1_6]; omega) | (clear hr; (try clear hkn); simp_all; done))) | (refine eq_f ?_ ?_; focus (first | omega | assumption | (simp [inr_m1, k1_6]; done) | (simp [inr_m1, k1_6]; omega) | (clear hr; (try clear hkn); simp_all; done))) | (exfalso; clear hr; (try clear hkn); simp_all; done)))) (by first | rfl | (simp only [bq, ifc_T, ifc_F, inr_m1, and_true, true_and, and_false, false_and, or_true, true_or, or_false, false_or, not_true_eq_false, not_false_eq_true, and_self, or_self, k1_6, knV, knT, tdV, tdT, drV, drT, ttV, ttT, teV, teT, mtr, List.cons_append, List.nil_append, List.append_assoc]; done) | (simp [bq, ifc_T, ifc_F, inr_m1, k1_6, knV, knT, tdV, tdT, drV, drT, ttV, ttT, teV, teT, mtr, List.cons_append, List.nil_append, List.append_assoc]; done) | ((try simp only [bq, knV, knT, tdV, tdT, drV, drT, ttV, ttT, teV, teT, mtr, List.cons_append, List.nil_append, List.append_assoc]); repeat (first | rfl | (refine eq_t ?_ ?_; focus (first | omega | assumption | (simp [inr_m1, k1_6]; done) | (simp [inr_m1, k1_6]; omega) | (clear hr; (try clear hkn); simp_all; done))) | (refine eq_f ?_ ?_; focus (first | omega | assumption | (simp [inr_m1, k1_6]; done) | (simp [inr_m1, k1_6]; omega) | (clear hr; (try clear hkn); simp_all; done))) | (exfalso; clear hr; (try clear hkn); simp_all; done)))))
  have t2 : k.toInt < 3 ∨ 6 < k.toInt ∨ k = 4 := by
    rcases sw_out k (3) (6) with h | h | ⟨ha, hb⟩
    · exact Or.inl h
    · exact Or.inr (Or.inl h)
    · refine Or.inr (Or.inr ?_)
      have hz : ∀ z : Int, 3 ≤ z → z ≤ 6 → z = 3 ∨ z = 4 ∨ z = 5 ∨ z = 6 := by omega
      rcases hz _ ha hb with e | e | e | e
      · exact absurd (sw_eq (k := 3) e (by decide)) k1_3
      · exact (sw_eq (k := 4) e (by decide))
      · exact absurd (sw_eq (k := 5) e (by decide)) k1_5
      · exact absurd (sw_eq (k := 6) e (by decide)) k1_6
  have J3 : V g F cX9_tellsAct RX9 4 7 73 [(0, .ref (g.1 + 65)), (1, .int (nI i)), (2, .int x)] [] I L (RT na nt ni) (NT nl) (NB + m) 0 0 := by
    refine v_aload_n dX9_tellsAct_73 rfl 0 rfl ?_
    refine v_iload_n dX9_tellsAct_74 rfl 1 rfl ?_
    refine v_iload_n dX9_tellsAct_75 rfl 2 rfl ?_
    refine v_callVi (As := [.int (nI i), .int x]) (rest := []) lk_X9_431 (c_X9_travellerTells (I := I) i x rn (by omega) hre (by omega) k v hk hv) dX9_tellsAct_76 rfl (ltn rfl) rfl rfl (Nat.le_of_ble_eq_true rfl) (by decide) ?_
    exact v_iret hr dX9_tellsAct_79 (psi (by first | rfl | (simp only [bq, ifc_T, ifc_F, inr_m1, and_true, true_and, and_false, false_and, or_true, true_or, or_false, false_or, not_true_eq_false, not_false_eq_true, and_self, or_self, k1_3, k1_5, k1_6, knV, knT, tdV, tdT, drV, drT, ttV, ttT, teV, teT, mtr, List.cons_append, List.nil_append, List.append_assoc]; done) | (simp [bq, ifc_T, ifc_F, inr_m1, k1_3, k1_5, k1_6, knV, knT, tdV, tdT, drV, drT, ttV, ttT, teV, teT, mtr, List.cons_append, List.nil_append, List.append_assoc]; done) | ((try simp only [bq, knV, knT, tdV, tdT, drV, drT, ttV, ttT, teV, teT, mtr, List.cons_append, List.nil_append, List.append_assoc]); repeat (first | rfl | (refine eq_t ?_ ?_; focus (first | omega | assumption | (simp [inr_m1, k1_3, k1_5, k1_6]; done) | (simp [inr_m1, k1_3, k1_5, k1_6]; omega) | (clear hr; (try clear hkn); simp_all; done))) | (refine eq_f ?_ ?_; focus (first | omega | assumption | (simp [inr_m1, k1_3, k1_5, k1_6]; done) | (simp [inr_m1, k1_3, k1_5, k1_6]; omega) | (clear hr; (try clear hkn); simp_all; done))) | (exfalso; clear hr; (try clear hkn); simp_all; done)))) (by first | rfl | (simp only [bq, ifc_T, ifc_F, inr_m1, and_true, true_and, and_false, false_and, or_true, true_or, or_false, false_or, not_true_eq_false, not_false_eq_true, and_self, or_self, k1_3, k1_5, k1_6, knV, knT, tdV, tdT, drV, drT, ttV, ttT, teV, teT, mtr, List.cons_append, List.nil_append, List.append_assoc]; done) | (simp [bq, ifc_T, ifc_F, inr_m1, k1_3, k1_5, k1_6, knV, knT, tdV, tdT, drV, drT, ttV, ttT, teV, teT, mtr, List.cons_append, List.nil_append, List.append_assoc]; done) | ((try simp only [bq, knV, knT, tdV, tdT, drV, drT, ttV, ttT, teV, teT, mtr, List.cons_append, List.nil_append, List.append_assoc]); repeat (first | rfl | (refine eq_t ?_ ?_; focus (first | omega | assumption | (simp [inr_m1, k1_3, k1_5, k1_6]; done) | (simp [inr_m1, k1_3, k1_5, k1_6]; omega) | (clear hr; (try clear hkn); simp_all; done))) | (refine eq_f ?_ ?_; focus (first | omega | assumption | (simp [inr_m1, k1_3, k1_5, k1_6]; done) | (simp [inr_m1, k1_3, k1_5, k1_6]; omega) | (clear hr; (try clear hkn); simp_all; done))) | (exfalso; clear hr; (try clear hkn); simp_all; done)))))
  rcases t2 with t2 | t2 | t2
  · exact v_tabOut (tgt := 73) dX9_tellsAct_6 (Or.inl t2) (by decide) J3
  · exact v_tabOut (tgt := 73) dX9_tellsAct_6 (Or.inr t2) (by decide) J3
  · exact v_is t2 (v_tabIn (off := 67) (tgt := 73) dX9_tellsAct_6 (by decide) (by decide) (by decide) (by decide) J3)
noncomputable def actV (k i v a x : Int32) : Int32 := ifc (a = 0) (knV k i v x) (ifc (a = 1) (drV k i v x) (teV k i v x))
noncomputable def actT (k a : Int32) : List Int32 := ifc (a = 0) (knT k) (ifc (a = 1) (drT k) (teT k))
set_option maxRecDepth 100000 in
set_option maxHeartbeats 400000 in
theorem c_X9_act {g : Gl} {I : Ty} {L : TL} {na nt ni m : Nat} {nl : Nat → Nat} (i : Int32) (a : Int32) (x : Int32) (pp : Nat) (hpp : pp ≤ 6) (hpe : I 65 0 = nI pp) : Ct g yX9_act cX9_act 4 (some .int) 8 0 0 [.ref (g.1 + 65), .int i, .int a, .int x] I L (RT na nt ni) (NT nl) (NB + m) (Ps (some (.int (ifc (inr i pp ∧ inr a 3) (actV (I 67 (tn i)) i (I 68 (tn i)) a x) 0))) (ifc (inr i pp ∧ inr a 3) (ifc (a = 0) (mtr (wr I 65 67 0) 0 (knT (I 67 (tn i)))) (ifc (a = 1) (mtr (wr I 65 67 0) 0 (drT (I 67 (tn i)))) (mtr (wr I 65 67 0) 0 (teT (I 67 (tn i)))))) (wr I 65 67 0)) L (RT na nt ni) (NT nl) (NB + m)) := by
  refine ct_of (by decide +kernel) (Nat.le_of_ble_eq_true rfl) (fun F hnm hr => ?_)
  clear hnm
  show V g F cX9_act RX9 4 8 0 [(0, .ref (g.1 + 65)), (1, .int i), (2, .int a), (3, .int x)] [] I L (RT na nt ni) (NT nl) (NB + m) 0 0
  refine v_aload_n dX9_act_0 rfl 0 rfl ?_
  refine v_iconst (v := 0) dX9_act_1 (by decide) ?_
  refine v_puti pa_X9_214 dX9_act_2 rfl (by decide) (ltn rfl) (by show 67 < 73; decide) rfl ?_
  refine v_aload_n dX9_act_5 rfl 0 rfl ?_
  refine v_iload_n dX9_act_6 rfl 1 rfl ?_
  refine v_callVi (As := [.int i]) (rest := []) lk_X9_245 (c_X9_isOne (I := (wr I 65 67 0)) i pp hpp hpe) dX9_act_7 rfl (ltn rfl) rfl rfl (Nat.le_of_ble_eq_true rfl) (by decide) ?_
  refine v_ifb_eq (tgt := 23) dX9_act_10 (by decide) (fun h1 => ?_) (fun h1 => ?_)
  · -- not inr i pp
    refine v_iconst (v := 0) dX9_act_23 (by decide) ?_
    exact v_iret hr dX9_act_24 (psi (by first | rfl | (simp only [bq, ifc_T, ifc_F, inr_m1, and_true, true_and, and_false, false_and, or_true, true_or, or_false, false_or, not_true_eq_false, not_false_eq_true, and_self, or_self, h1, actV, actT]; done) | (simp [bq, ifc_T, ifc_F, inr_m1, h1, actV, actT]; done) | ((try simp only [bq, actV, actT]); repeat (first | rfl | (refine eq_t ?_ ?_; focus (first | omega | assumption | (simp [inr_m1, h1]; done) | (simp [inr_m1, h1]; omega) | (clear hr; (try clear hkn); simp_all; done))) | (refine eq_f ?_ ?_; focus (first | omega | assumption | (simp [inr_m1, h1]; done) | (simp [inr_m1, h1]; omega) | (clear hr; (try clear hkn); simp_all; done))) | (exfalso; clear hr; (try clear hkn); simp_all; done)))) (by first | rfl | (simp only [bq, ifc_T, ifc_F, inr_m1, and_true, true_and, and_false, false_and, or_true, true_or, or_false, false_or, not_true_eq_false, not_false_eq_true, and_self, or_self, h1, actV, actT]; done) | (simp [bq, ifc_T, ifc_F, inr_m1, h1, actV, actT]; done) | ((try simp only [bq, actV, actT]); repeat (first | rfl | (refine eq_t ?_ ?_; focus (first | omega | assumption | (simp [inr_m1, h1]; done) | (simp [inr_m1, h1]; omega) | (clear hr; (try clear hkn); simp_all; done))) | (refine eq_f ?_ ?_; focus (first | omega | assumption | (simp [inr_m1, h1]; done) | (simp [inr_m1, h1]; omega) | (clear hr; (try clear hkn); simp_all; done))) | (exfalso; clear hr; (try clear hkn); simp_all; done)))))
  · -- inr i pp
    obtain ⟨P2, rfl, l3, t4, u5⟩ := inr_ex h1 (by omega)
    refine v_aload_n dX9_act_13 rfl 0 rfl ?_
    refine v_iload_n dX9_act_14 rfl 2 rfl ?_
    refine v_iconst (v := 0) dX9_act_15 (by decide) ?_
    refine v_iconst (v := 2) dX9_act_16 (by decide) ?_
    refine v_callVi (As := [.int a, .int 0, .int 2]) (rest := []) lk_X9_237 (c_in0 a 2 (by decide)) dX9_act_17 rfl (ltn rfl) rfl rfl (Nat.le_of_ble_eq_true rfl) (by decide) ?_
    refine v_ifb_ne (tgt := 25) dX9_act_20 (by decide) (fun h6 => ?_) (fun h6 => ?_)
    · -- inr a 3
      refine v_iload_n dX9_act_25 rfl 2 rfl ?_
      refine v_if_ne (tgt := 38) dX9_act_26 (by decide) (fun h7 => ?_) (fun h7 => ?_)
      · -- a ne 0
        refine v_iload_n dX9_act_38 rfl 2 rfl ?_
        refine v_iconst (v := 1) dX9_act_39 (by decide) ?_
        refine v_icmp_ne (tgt := 52) dX9_act_40 (by decide) (fun h8 => ?_) (fun h8 => ?_)
        · -- a ne 1
          refine v_aload_n dX9_act_52 rfl 0 rfl ?_
          refine v_iload_n dX9_act_53 rfl 1 rfl ?_
          refine v_iload_n dX9_act_54 rfl 3 rfl ?_
          refine v_callVi (As := [.int (nI P2), .int x]) (rest := []) lk_X9_434 (c_X9_tellsAct (I := (wr I 65 67 0)) P2 x 0 (by omega) rfl (by omega) (I 67 P2) (I 68 P2) rfl rfl) dX9_act_55 rfl (ltn rfl) rfl rfl (Nat.le_of_ble_eq_true rfl) (by decide) ?_
          exact v_iret hr dX9_act_58 (psi (by first | rfl | (simp only [bq, ifc_T, ifc_F, inr_m1, and_true, true_and, and_false, false_and, or_true, true_or, or_false, false_or, not_true_eq_false, not_false_eq_true, and_self, or_self, h1, t4, u5, l3, h6, h7, h8, actV, actT]; done) | (simp [bq, ifc_T, ifc_F, inr_m1, h1, t4, u5, l3, h6, h7, h8, actV, actT]; done) | ((try simp only [bq, actV, actT]); repeat (first | rfl | (refine eq_t ?_ ?_; focus (first | omega | assumption | (simp [inr_m1, h1, t4, u5, l3, h6, h7, h8]; done) | (simp [inr_m1, h1, t4, u5, l3, h6, h7, h8]; omega) | (simp only [u5]; omega) | (clear hr; (try clear hkn); simp_all; done))) | (refine eq_f ?_ ?_; focus (first | omega | assumption | (simp [inr_m1, h1, t4, u5, l3, h6, h7, h8]; done) | (simp [inr_m1, h1, t4, u5, l3, h6, h7, h8]; omega) | (simp only [u5]; omega) | (clear hr; (try clear hkn); simp_all; done))) | (simp only [t4]; done) | (exfalso; clear hr; (try clear hkn); simp_all; done)))) (by first | rfl | (simp only [bq, ifc_T, ifc_F, inr_m1, and_true, true_and, and_false, false_and, or_true, true_or, or_false, false_or, not_true_eq_false, not_false_eq_true, and_self, or_self, h1, t4, u5, l3, h6, h7, h8, actV, actT]; done) | (simp [bq, ifc_T, ifc_F, inr_m1, h1, t4, u5, l3, h6, h7, h8, actV, actT]; done) | ((try simp only [bq, actV, actT]); repeat (first | rfl | (refine eq_t ?_ ?_; focus (first | omega | assumption | (simp [inr_m1, h1, t4, u5, l3, h6, h7, h8]; done) | (simp [inr_m1, h1, t4, u5, l3, h6, h7, h8]; omega) | (simp only [u5]; omega) | (clear hr; (try clear hkn); simp_all; done))) | (refine eq_f ?_ ?_; focus (first | omega | assumption | (simp [inr_m1, h1, t4, u5, l3, h6, h7, h8]; done) | (simp [inr_m1, h1, t4, u5, l3, h6, h7, h8]; omega) | (simp only [u5]; omega) | (clear hr; (try clear hkn); simp_all; done))) | (simp only [t4]; done) | (exfalso; clear hr; (try clear hkn); simp_all; done)))))
        · -- a eq 1
          refine v_aload_n dX9_act_43 rfl 0 rfl ?_
          refine v_iload_n dX9_act_44 rfl 1 rfl ?_
          refine v_iload_n dX9_act_45 rfl 3 rfl ?_
          refine v_callVi (As := [.int (nI P2), .int x]) (rest := []) lk_X9_428 (c_X9_drawsAct (I := (wr I 65 67 0)) P2 x 0 (by omega) rfl (by omega) (I 67 P2) (I 68 P2) rfl rfl) dX9_act_46 rfl (ltn rfl) rfl rfl (Nat.le_of_ble_eq_true rfl) (by decide) ?_
          refine v_goto (tgt := 58) dX9_act_49 (by decide) ?_
          exact v_iret hr dX9_act_58 (psi (by first | rfl | (simp only [bq, ifc_T, ifc_F, inr_m1, and_true, true_and, and_false, false_and, or_true, true_or, or_false, false_or, not_true_eq_false, not_false_eq_true, and_self, or_self, h1, t4, u5, l3, h6, h7, h8, actV, actT]; done) | (simp [bq, ifc_T, ifc_F, inr_m1, h1, t4, u5, l3, h6, h7, h8, actV, actT]; done) | ((try simp only [bq, actV, actT]); repeat (first | rfl | (refine eq_t ?_ ?_; focus (first | omega | assumption | (simp [inr_m1, h1, t4, u5, l3, h6, h7, h8]; done) | (simp [inr_m1, h1, t4, u5, l3, h6, h7, h8]; omega) | (simp only [u5]; omega) | (clear hr; (try clear hkn); simp_all; done))) | (refine eq_f ?_ ?_; focus (first | omega | assumption | (simp [inr_m1, h1, t4, u5, l3, h6, h7, h8]; done) | (simp [inr_m1, h1, t4, u5, l3, h6, h7, h8]; omega) | (simp only [u5]; omega) | (clear hr; (try clear hkn); simp_all; done))) | (simp only [t4]; done) | (exfalso; clear hr; (try clear hkn); simp_all; done)))) (by first | rfl | (simp only [bq, ifc_T, ifc_F, inr_m1, and_true, true_and, and_false, false_and, or_true, true_or, or_false, false_or, not_true_eq_false, not_false_eq_true, and_self, or_self, h1, t4, u5, l3, h6, h7, h8, actV, actT]; done) | (simp [bq, ifc_T, ifc_F, inr_m1, h1, t4, u5, l3, h6, h7, h8, actV, actT]; done) | ((try simp only [bq, actV, actT]); repeat (first | rfl | (refine eq_t ?_ ?_; focus (first | omega | assumption | (simp [inr_m1, h1, t4, u5, l3, h6, h7, h8]; done) | (simp [inr_m1, h1, t4, u5, l3, h6, h7, h8]; omega) | (simp only [u5]; omega) | (clear hr; (try clear hkn); simp_all; done))) | (refine eq_f ?_ ?_; focus (first | omega | assumption | (simp [inr_m1, h1, t4, u5, l3, h6, h7, h8]; done) | (simp [inr_m1, h1, t4, u5, l3, h6, h7, h8]; omega) | (simp only [u5]; omega) | (clear hr; (try clear hkn); simp_all; done))) | (simp only [t4]; done) | (exfalso; clear hr; (try clear hkn); simp_all; done)))))
      · -- a eq 0
        refine v_aload_n dX9_act_29 rfl 0 rfl ?_
        refine v_iload_n dX9_act_30 rfl 1 rfl ?_
        refine v_iload_n dX9_act_31 rfl 3 rfl ?_
        refine v_callVi (As := [.int (nI P2), .int x]) (rest := []) lk_X9_419 (c_X9_knocksAct (I := (wr I 65 67 0)) P2 x 0 (by omega) rfl (by omega) (I 67 P2) (I 68 P2) rfl rfl) dX9_act_32 rfl (ltn rfl) rfl rfl (Nat.le_of_ble_eq_true rfl) (by decide) ?_
        refine v_goto (tgt := 58) dX9_act_35 (by decide) ?_
        exact v_iret hr dX9_act_58 (psi (by first | rfl | (simp only [bq, ifc_T, ifc_F, inr_m1, and_true, true_and, and_false, false_and, or_true, true_or, or_false, false_or, not_true_eq_false, not_false_eq_true, and_self, or_self, h1, t4, u5, l3, h6, h7, actV, actT]; done) | (simp [bq, ifc_T, ifc_F, inr_m1, h1, t4, u5, l3, h6, h7, actV, actT]; done) | ((try simp only [bq, actV, actT]); repeat (first | rfl | (refine eq_t ?_ ?_; focus (first | omega | assumption | (simp [inr_m1, h1, t4, u5, l3, h6, h7]; done) | (simp [inr_m1, h1, t4, u5, l3, h6, h7]; omega) | (simp only [u5]; omega) | (clear hr; (try clear hkn); simp_all; done))) | (refine eq_f ?_ ?_; focus (first | omega | assumption | (simp [inr_m1, h1, t4, u5, l3, h6, h7]; done) | (simp [inr_m1, h1, t4, u5, l3, h6, h7]; omega) | (simp only [u5]; omega) | (clear hr; (try clear hkn); simp_all; done))) | (simp only [t4]; done) | (exfalso; clear hr; (try clear hkn); simp_all; done)))) (by first | rfl | (simp only [bq, ifc_T, ifc_F, inr_m1, and_true, true_and, and_false, false_and, or_true, true_or, or_false, false_or, not_true_eq_false, not_false_eq_true, and_self, or_self, h1, t4, u5, l3, h6, h7, actV, actT]; done) | (simp [bq, ifc_T, ifc_F, inr_m1, h1, t4, u5, l3, h6, h7, actV, actT]; done) | ((try simp only [bq, actV, actT]); repeat (first | rfl | (refine eq_t ?_ ?_; focus (first | omega | assumption | (simp [inr_m1, h1, t4, u5, l3, h6, h7]; done) | (simp [inr_m1, h1, t4, u5, l3, h6, h7]; omega) | (simp only [u5]; omega) | (clear hr; (try clear hkn); simp_all; done))) | (refine eq_f ?_ ?_; focus (first | omega | assumption | (simp [inr_m1, h1, t4, u5, l3, h6, h7]; done) | (simp [inr_m1, h1, t4, u5, l3, h6, h7]; omega) | (simp only [u5]; omega) | (clear hr; (try clear hkn); simp_all; done))) | (simp only [t4]; done) | (exfalso; clear hr; (try clear hkn); simp_all; done)))))
    · -- not inr a 3
      refine v_iconst (v := 0) dX9_act_23 (by decide) ?_
      exact v_iret hr dX9_act_24 (psi (by first | rfl | (simp only [bq, ifc_T, ifc_F, inr_m1, and_true, true_and, and_false, false_and, or_true, true_or, or_false, false_or, not_true_eq_false, not_false_eq_true, and_self, or_self, h1, t4, u5, l3, h6, actV, actT]; done) | (simp [bq, ifc_T, ifc_F, inr_m1, h1, t4, u5, l3, h6, actV, actT]; done) | ((try simp only [bq, actV, actT]); repeat (first | rfl | (refine eq_t ?_ ?_; focus (first | omega | assumption | (simp [inr_m1, h1, t4, u5, l3, h6]; done) | (simp [inr_m1, h1, t4, u5, l3, h6]; omega) | (simp only [u5]; omega) | (clear hr; (try clear hkn); simp_all; done))) | (refine eq_f ?_ ?_; focus (first | omega | assumption | (simp [inr_m1, h1, t4, u5, l3, h6]; done) | (simp [inr_m1, h1, t4, u5, l3, h6]; omega) | (simp only [u5]; omega) | (clear hr; (try clear hkn); simp_all; done))) | (simp only [t4]; done) | (exfalso; clear hr; (try clear hkn); simp_all; done)))) (by first | rfl | (simp only [bq, ifc_T, ifc_F, inr_m1, and_true, true_and, and_false, false_and, or_true, true_or, or_false, false_or, not_true_eq_false, not_false_eq_true, and_self, or_self, h1, t4, u5, l3, h6, actV, actT]; done) | (simp [bq, ifc_T, ifc_F, inr_m1, h1, t4, u5, l3, h6, actV, actT]; done) | ((try simp only [bq, actV, actT]); repeat (first | rfl | (refine eq_t ?_ ?_; focus (first | omega | assumption | (simp [inr_m1, h1, t4, u5, l3, h6]; done) | (simp [inr_m1, h1, t4, u5, l3, h6]; omega) | (simp only [u5]; omega) | (clear hr; (try clear hkn); simp_all; done))) | (refine eq_f ?_ ?_; focus (first | omega | assumption | (simp [inr_m1, h1, t4, u5, l3, h6]; done) | (simp [inr_m1, h1, t4, u5, l3, h6]; omega) | (simp only [u5]; omega) | (clear hr; (try clear hkn); simp_all; done))) | (simp only [t4]; done) | (exfalso; clear hr; (try clear hkn); simp_all; done)))))
