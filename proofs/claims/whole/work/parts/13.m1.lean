set_option maxRecDepth 100000 in
set_option maxHeartbeats 400000 in
theorem c_X9_in {g : Gl} {I : Ty} {L : TL} {na nt ni m : Nat} {nl : Nat → Nat} (v : Int32) (lo : Int32) (hi : Int32)  : Ct g yX9_in cX9_in 4 (some .boolean) 1 0 0 [.ref (g.1 + 65), .int v, .int lo, .int hi] I L (RT na nt ni) (NT nl) (NB + m) (Ps (some (.int (bq (lo ≤ v ∧ v ≤ hi)))) I L (RT na nt ni) (NT nl) (NB + m)) := by
  refine ct_of (by decide +kernel) (Nat.le_of_ble_eq_true rfl) (fun F hnm hr => ?_)
  clear hnm
  show V g F cX9_in RX9 4 1 0 [(0, .ref (g.1 + 65)), (1, .int v), (2, .int lo), (3, .int hi)] [] I L (RT na nt ni) (NT nl) (NB + m) 0 0
  refine v_iload_n dX9_in_0 rfl 1 rfl ?_
  refine v_iload_n dX9_in_1 rfl 2 rfl ?_
  refine v_icmp_lt (tgt := 14) dX9_in_2 (by decide) (fun h1 => ?_) (fun h1 => ?_)
  · -- v lt lo
    refine v_iconst (v := 0) dX9_in_14 (by decide) ?_
    exact v_zret hr dX9_in_15 (by first | rfl | exact nbq) (psi (by by_cases hz : lo ≤ v ∧ v ≤ hi <;> first | (rw [bq_t hz]; done) | (rw [bq_f hz]; done) | (exfalso; simp only [Int32.lt_iff_toInt_lt, Int32.le_iff_toInt_le] at *; omega)) rfl)
  · -- v ge lo
    refine v_iload_n dX9_in_5 rfl 1 rfl ?_
    refine v_iload_n dX9_in_6 rfl 3 rfl ?_
    refine v_icmp_gt (tgt := 14) dX9_in_7 (by decide) (fun h2 => ?_) (fun h2 => ?_)
    · -- v gt hi
      refine v_iconst (v := 0) dX9_in_14 (by decide) ?_
      exact v_zret hr dX9_in_15 (by first | rfl | exact nbq) (psi (by by_cases hz : lo ≤ v ∧ v ≤ hi <;> first | (rw [bq_t hz]; done) | (rw [bq_f hz]; done) | (exfalso; simp only [Int32.lt_iff_toInt_lt, Int32.le_iff_toInt_le] at *; omega)) rfl)
    · -- v le hi
      refine v_iconst (v := 1) dX9_in_10 (by decide) ?_
      refine v_goto (tgt := 15) dX9_in_11 (by decide) ?_
      exact v_zret hr dX9_in_15 (by first | rfl | exact nbq) (psi (by by_cases hz : lo ≤ v ∧ v ≤ hi <;> first | (rw [bq_t hz]; done) | (rw [bq_f hz]; done) | (exfalso; simp only [Int32.lt_iff_toInt_lt, Int32.le_iff_toInt_le] at *; omega)) rfl)
theorem c_in0 {g : Gl} {I : Ty} {L : TL} {na nt ni m : Nat} {nl : Nat → Nat} (v : Int32) (k : Nat) (hk : k + 1 < 2 ^ 31) : Ct g yX9_in cX9_in 4 (some .boolean) 1 0 0 [.ref (g.1 + 65), .int v, .int 0, .int (nI k)] I L (RT na nt ni) (NT nl) (NB + m) (Ps (some (.int (bq (inr v (k + 1))))) I L (RT na nt ni) (NT nl) (NB + m)) := by
  have h := c_X9_in (g := g) (I := I) (L := L) (na := na) (nt := nt) (ni := ni) (m := m) (nl := nl) v 0 (nI k)
  rw [bq_congr (le_inr hk)] at h
  exact h
theorem c_inp {g : Gl} {I : Ty} {L : TL} {na nt ni m : Nat} {nl : Nat → Nat} (v : Int32) (k : Nat) (hk : k < 2 ^ 30) : Ct g yX9_in cX9_in 4 (some .boolean) 1 0 0 [.ref (g.1 + 65), .int v, .int 0, .int (nI k - 1)] I L (RT na nt ni) (NT nl) (NB + m) (Ps (some (.int (bq (inr v k)))) I L (RT na nt ni) (NT nl) (NB + m)) := by
  have h := c_X9_in (g := g) (I := I) (L := L) (na := na) (nt := nt) (ni := ni) (m := m) (nl := nl) v 0 (nI k - 1)
  rw [bq_congr (le_inrp hk)] at h
  exact h
set_option maxRecDepth 100000 in
set_option maxHeartbeats 400000 in
theorem c_X9_has {g : Gl} {I : Ty} {L : TL} {na nt ni m : Nat} {nl : Nat → Nat} (x : Int32) (k : Int32)  : Ct g yX9_has cX9_has 3 (some .boolean) 0 0 0 [.ref (g.1 + 65), .int x, .int k] I L (RT na nt ni) (NT nl) (NB + m) (Ps (some (.int (bq (x >>> (k &&& 31) &&& 1 = 1)))) I L (RT na nt ni) (NT nl) (NB + m)) := by
  refine ct_of (by decide +kernel) (Nat.le_of_ble_eq_true rfl) (fun F hnm hr => ?_)
  clear hnm
  show V g F cX9_has RX9 3 0 0 [(0, .ref (g.1 + 65)), (1, .int x), (2, .int k)] [] I L (RT na nt ni) (NT nl) (NB + m) 0 0
  refine v_iload_n dX9_has_0 rfl 1 rfl ?_
  refine v_iload_n dX9_has_1 rfl 2 rfl ?_
  refine v_ishr dX9_has_2 ?_
  refine v_iconst (v := 1) dX9_has_3 (by decide) ?_
  refine v_iand dX9_has_4 ?_
  refine v_iconst (v := 1) dX9_has_5 (by decide) ?_
  refine v_icmp_ne (tgt := 13) dX9_has_6 (by decide) (fun h1 => ?_) (fun h1 => ?_)
  · -- ((x >>> (k &&& 31)) &&& 1) ne 1
    refine v_iconst (v := 0) dX9_has_13 (by decide) ?_
    exact v_zret hr dX9_has_14 (by first | rfl | exact nbq) (psi (by first | rfl | (simp only [bq, ifc_T, ifc_F, inr_m1, and_true, true_and, and_false, false_and, or_true, true_or, or_false, false_or, not_true_eq_false, not_false_eq_true, and_self, or_self, h1]; done) | (simp [bq, ifc_T, ifc_F, inr_m1, h1]; done) | ((try simp only [bq]); repeat (first | rfl | (refine eq_t ?_ ?_; focus (first | omega | assumption | (simp [inr_m1, h1]; done) | (simp [inr_m1, h1]; omega) | (clear hr; (try clear hkn); simp_all; done))) | (refine eq_f ?_ ?_; focus (first | omega | assumption | (simp [inr_m1, h1]; done) | (simp [inr_m1, h1]; omega) | (clear hr; (try clear hkn); simp_all; done))) | (exfalso; clear hr; (try clear hkn); simp_all; done)))) rfl)
  · -- ((x >>> (k &&& 31)) &&& 1) eq 1
    refine v_iconst (v := 1) dX9_has_9 (by decide) ?_
    refine v_goto (tgt := 14) dX9_has_10 (by decide) ?_
    exact v_zret hr dX9_has_14 (by first | rfl | exact nbq) (psi (by first | rfl | (simp only [bq, ifc_T, ifc_F, inr_m1, and_true, true_and, and_false, false_and, or_true, true_or, or_false, false_or, not_true_eq_false, not_false_eq_true, and_self, or_self, h1]; done) | (simp [bq, ifc_T, ifc_F, inr_m1, h1]; done) | ((try simp only [bq]); repeat (first | rfl | (refine eq_t ?_ ?_; focus (first | omega | assumption | (simp [inr_m1, h1]; done) | (simp [inr_m1, h1]; omega) | (clear hr; (try clear hkn); simp_all; done))) | (refine eq_f ?_ ?_; focus (first | omega | assumption | (simp [inr_m1, h1]; done) | (simp [inr_m1, h1]; omega) | (clear hr; (try clear hkn); simp_all; done))) | (exfalso; clear hr; (try clear hkn); simp_all; done)))) rfl)
set_option maxRecDepth 100000 in
set_option maxHeartbeats 400000 in
theorem c_X9_least {g : Gl} {I : Ty} {L : TL} {na nt ni m : Nat} {nl : Nat → Nat} (x : Int32) (y : Int32)  : Ct g yX9_least cX9_least 3 (some .int) 0 0 0 [.ref (g.1 + 65), .int x, .int y] I L (RT na nt ni) (NT nl) (NB + m) (Ps (some (.int (if x < y then x else y))) I L (RT na nt ni) (NT nl) (NB + m)) := by
  refine ct_of (by decide +kernel) (Nat.le_of_ble_eq_true rfl) (fun F hnm hr => ?_)
  clear hnm
  show V g F cX9_least RX9 3 0 0 [(0, .ref (g.1 + 65)), (1, .int x), (2, .int y)] [] I L (RT na nt ni) (NT nl) (NB + m) 0 0
  refine v_iload_n dX9_least_0 rfl 1 rfl ?_
  refine v_iload_n dX9_least_1 rfl 2 rfl ?_
  refine v_icmp_ge (tgt := 9) dX9_least_2 (by decide) (fun h1 => ?_) (fun h1 => ?_)
  · -- x ge y
    have h1n := Int32.not_lt.mpr h1
    refine v_iload_n dX9_least_9 rfl 2 rfl ?_
    exact v_iret hr dX9_least_10 (psi (by split <;> first | rfl | (exfalso; simp only [Int32.lt_iff_toInt_lt, Int32.le_iff_toInt_le] at *; omega)) rfl)
  · -- x lt y
    have h1n := Int32.not_le.mp h1
    refine v_iload_n dX9_least_5 rfl 1 rfl ?_
    refine v_goto (tgt := 10) dX9_least_6 (by decide) ?_
    exact v_iret hr dX9_least_10 (psi (by split <;> first | rfl | (exfalso; simp only [Int32.lt_iff_toInt_lt, Int32.le_iff_toInt_le] at *; omega)) rfl)
set_option maxRecDepth 100000 in
set_option maxHeartbeats 400000 in
theorem c_X9_isOne {g : Gl} {I : Ty} {L : TL} {na nt ni m : Nat} {nl : Nat → Nat} (p : Int32) (pp : Nat) (hpp : pp ≤ 6) (hpe : I 65 0 = nI pp) : Ct g yX9_isOne cX9_isOne 2 (some .boolean) 2 0 0 [.ref (g.1 + 65), .int p] I L (RT na nt ni) (NT nl) (NB + m) (Ps (some (.int (bq (inr p pp)))) I L (RT na nt ni) (NT nl) (NB + m)) := by
  refine ct_of (by decide +kernel) (Nat.le_of_ble_eq_true rfl) (fun F hnm hr => ?_)
  clear hnm
  show V g F cX9_isOne RX9 2 2 0 [(0, .ref (g.1 + 65)), (1, .int p)] [] I L (RT na nt ni) (NT nl) (NB + m) 0 0
  refine v_aload_n dX9_isOne_0 rfl 0 rfl ?_
  refine v_iload_n dX9_isOne_1 rfl 1 rfl ?_
  refine v_iconst (v := 0) dX9_isOne_2 (by decide) ?_
  refine v_aload_n dX9_isOne_3 rfl 0 rfl ?_
  refine v_get (v := .int (I 65 0)) fa_X9_7 dX9_isOne_4 rfl (by decide) (ltn rfl) rfl ?_
  refine v_is hpe ?_
  refine v_iconst (v := 1) dX9_isOne_7 (by decide) ?_
  refine v_isub dX9_isOne_8 ?_
  refine v_callVi (As := [.int p, .int 0, .int (nI pp - 1)]) (rest := []) lk_X9_237 (c_inp p pp (by omega)) dX9_isOne_9 rfl (ltn rfl) rfl rfl (Nat.le_of_ble_eq_true rfl) (by decide) ?_
  exact v_zret hr dX9_isOne_12 (by first | rfl | exact nbq) (psi (by rfl) rfl)
set_option maxRecDepth 100000 in
set_option maxHeartbeats 400000 in
theorem c_X9_isCell {g : Gl} {I : Ty} {L : TL} {na nt ni m : Nat} {nl : Nat → Nat} (c : Int32)  : Ct g yX9_isCell cX9_isCell 2 (some .boolean) 2 0 0 [.ref (g.1 + 65), .int c] I L (RT na nt ni) (NT nl) (NB + m) (Ps (some (.int (bq (inr c 16)))) I L (RT na nt ni) (NT nl) (NB + m)) := by
  refine ct_of (by decide +kernel) (Nat.le_of_ble_eq_true rfl) (fun F hnm hr => ?_)
  clear hnm
  show V g F cX9_isCell RX9 2 2 0 [(0, .ref (g.1 + 65)), (1, .int c)] [] I L (RT na nt ni) (NT nl) (NB + m) 0 0
  refine v_aload_n dX9_isCell_0 rfl 0 rfl ?_
  refine v_iload_n dX9_isCell_1 rfl 1 rfl ?_
  refine v_iconst (v := 0) dX9_isCell_2 (by decide) ?_
  refine v_bipush (v := 15) dX9_isCell_3 (by decide) ?_
  refine v_callVi (As := [.int c, .int 0, .int 15]) (rest := []) lk_X9_237 (c_in0 c 15 (by decide)) dX9_isCell_5 rfl (ltn rfl) rfl rfl (Nat.le_of_ble_eq_true rfl) (by decide) ?_
  exact v_zret hr dX9_isCell_8 (by first | rfl | exact nbq) (psi (by rfl) rfl)
set_option maxRecDepth 100000 in
set_option maxHeartbeats 400000 in
theorem c_X9_isHours {g : Gl} {I : Ty} {L : TL} {na nt ni m : Nat} {nl : Nat → Nat} (n : Int32)  : Ct g yX9_isHours cX9_isHours 2 (some .boolean) 2 0 0 [.ref (g.1 + 65), .int n] I L (RT na nt ni) (NT nl) (NB + m) (Ps (some (.int (bq (inr n 41)))) I L (RT na nt ni) (NT nl) (NB + m)) := by
  refine ct_of (by decide +kernel) (Nat.le_of_ble_eq_true rfl) (fun F hnm hr => ?_)
  clear hnm
  show V g F cX9_isHours RX9 2 2 0 [(0, .ref (g.1 + 65)), (1, .int n)] [] I L (RT na nt ni) (NT nl) (NB + m) 0 0
  refine v_aload_n dX9_isHours_0 rfl 0 rfl ?_
  refine v_iload_n dX9_isHours_1 rfl 1 rfl ?_
  refine v_iconst (v := 0) dX9_isHours_2 (by decide) ?_
  refine v_bipush (v := 40) dX9_isHours_3 (by decide) ?_
  refine v_callVi (As := [.int n, .int 0, .int 40]) (rest := []) lk_X9_237 (c_in0 n 40 (by decide)) dX9_isHours_5 rfl (ltn rfl) rfl rfl (Nat.le_of_ble_eq_true rfl) (by decide) ?_
  exact v_zret hr dX9_isHours_8 (by first | rfl | exact nbq) (psi (by rfl) rfl)
set_option maxRecDepth 100000 in
set_option maxHeartbeats 400000 in
theorem c_X9_isTape {g : Gl} {I : Ty} {L : TL} {na nt ni m : Nat} {nl : Nat → Nat} (t : Int32)  : Ct g yX9_isTape cX9_isTape 2 (some .boolean) 2 0 0 [.ref (g.1 + 65), .int t] I L (RT na nt ni) (NT nl) (NB + m) (Ps (some (.int (bq (inr t 6)))) I L (RT na nt ni) (NT nl) (NB + m)) := by
  refine ct_of (by decide +kernel) (Nat.le_of_ble_eq_true rfl) (fun F hnm hr => ?_)
  clear hnm
  show V g F cX9_isTape RX9 2 2 0 [(0, .ref (g.1 + 65)), (1, .int t)] [] I L (RT na nt ni) (NT nl) (NB + m) 0 0
  refine v_aload_n dX9_isTape_0 rfl 0 rfl ?_
  refine v_iload_n dX9_isTape_1 rfl 1 rfl ?_
  refine v_iconst (v := 0) dX9_isTape_2 (by decide) ?_
  refine v_iconst (v := 5) dX9_isTape_3 (by decide) ?_
  refine v_callVi (As := [.int t, .int 0, .int 5]) (rest := []) lk_X9_237 (c_in0 t 5 (by decide)) dX9_isTape_4 rfl (ltn rfl) rfl rfl (Nat.le_of_ble_eq_true rfl) (by decide) ?_
  exact v_zret hr dX9_isTape_7 (by first | rfl | exact nbq) (psi (by rfl) rfl)
set_option maxRecDepth 100000 in
set_option maxHeartbeats 400000 in
theorem c_X9_goal {g : Gl} {I : Ty} {L : TL} {na nt ni m : Nat} {nl : Nat → Nat} (p : Int32) (c : Int32) (pp : Nat) (hpp : pp ≤ 6) (hpe : I 65 0 = nI pp) : Ct g yX9_goal cX9_goal 4 (some .int) 3 0 0 [.ref (g.1 + 65), .int p, .int c] I L (RT na nt ni) (NT nl) (NB + m) (Ps (some (.int (ifc (inr p pp ∧ (c = -1 ∨ inr c 16)) (I 70 (tn p)) (-1)))) (ifc (inr p pp ∧ (c = -1 ∨ inr c 16)) (va_up I 70 (va_up (I 70) (tn p) (ifc (inr c 16) c (-5)))) I) L (RT na nt ni) (NT nl) (NB + m)) := by
  refine ct_of (by decide +kernel) (Nat.le_of_ble_eq_true rfl) (fun F hnm hr => ?_)
  clear hnm
  show V g F cX9_goal RX9 4 3 0 [(0, .ref (g.1 + 65)), (1, .int p), (2, .int c)] [] I L (RT na nt ni) (NT nl) (NB + m) 0 0
  refine v_aload_n dX9_goal_0 rfl 0 rfl ?_
  refine v_iload_n dX9_goal_1 rfl 1 rfl ?_
  refine v_callVi (As := [.int p]) (rest := []) lk_X9_245 (c_X9_isOne p pp hpp hpe) dX9_goal_2 rfl (ltn rfl) rfl rfl (Nat.le_of_ble_eq_true rfl) (by decide) ?_
  refine v_ifb_eq (tgt := 21) dX9_goal_5 (by decide) (fun h1 => ?_) (fun h1 => ?_)
  · -- not inr p pp
    refine v_iconst (v := (-1)) dX9_goal_21 (by decide) ?_
    exact v_iret hr dX9_goal_22 (psi (by first | rfl | (simp only [bq, ifc_T, ifc_F, inr_m1, and_true, true_and, and_false, false_and, or_true, true_or, or_false, false_or, not_true_eq_false, not_false_eq_true, and_self, or_self, h1]; done) | (simp [bq, ifc_T, ifc_F, inr_m1, h1]; done) | ((try simp only [bq]); repeat (first | rfl | (refine eq_t ?_ ?_; focus (first | omega | assumption | (simp [inr_m1, h1]; done) | (simp [inr_m1, h1]; omega) | (clear hr; (try clear hkn); simp_all; done))) | (refine eq_f ?_ ?_; focus (first | omega | assumption | (simp [inr_m1, h1]; done) | (simp [inr_m1, h1]; omega) | (clear hr; (try clear hkn); simp_all; done))) | (exfalso; clear hr; (try clear hkn); simp_all; done)))) (by first | rfl | (simp only [bq, ifc_T, ifc_F, inr_m1, and_true, true_and, and_false, false_and, or_true, true_or, or_false, false_or, not_true_eq_false, not_false_eq_true, and_self, or_self, h1]; done) | (simp [bq, ifc_T, ifc_F, inr_m1, h1]; done) | ((try simp only [bq]); repeat (first | rfl | (refine eq_t ?_ ?_; focus (first | omega | assumption | (simp [inr_m1, h1]; done) | (simp [inr_m1, h1]; omega) | (clear hr; (try clear hkn); simp_all; done))) | (refine eq_f ?_ ?_; focus (first | omega | assumption | (simp [inr_m1, h1]; done) | (simp [inr_m1, h1]; omega) | (clear hr; (try clear hkn); simp_all; done))) | (exfalso; clear hr; (try clear hkn); simp_all; done)))))
  · -- inr p pp
    obtain ⟨P2, rfl, l3, t4, u5⟩ := inr_ex h1 (by omega)
    refine v_iload_n dX9_goal_8 rfl 2 rfl ?_
    refine v_iconst (v := (-1)) dX9_goal_9 (by decide) ?_
    refine v_icmp_eq (tgt := 23) dX9_goal_10 (by decide) (fun h6 => ?_) (fun h6 => ?_)
    · -- c eq (-1)
      refine v_aload_n dX9_goal_23 rfl 0 rfl ?_
      refine v_get (v := .ref (g.1 + 70)) fa_X9_29 dX9_goal_24 rfl (by decide) (ltn rfl) rfl ?_
      refine v_iload_n dX9_goal_27 rfl 1 rfl ?_
      refine v_iaload (len := 6) (j := P2) dX9_goal_28 rfl (ltn rfl) rfl (by decide) rfl (by omega) ?_
      refine v_istore_n (lv2 := [(3, .int (I 70 P2)), (0, .ref (g.1 + 65)), (1, .int (nI P2)), (2, .int c)]) dX9_goal_29 rfl (by decide) rfl ?_
      refine v_aload_n dX9_goal_30 rfl 1 rfl ?_
      refine v_get (v := .ref (g.1 + 70)) fa_X9_29 dX9_goal_31 rfl (by decide) (ltn rfl) rfl ?_
      refine v_iload_n dX9_goal_34 rfl 2 rfl ?_
      refine v_iload_n dX9_goal_35 rfl 3 rfl ?_
      refine v_is h6 ?_
      refine v_if_ge (tgt := 44) dX9_goal_36 (by decide) (fun h7 => by first | exact absurd h7 (by decide) | exact absurd (by decide) h7) (fun _ => ?_)
      refine v_bipush (v := (-5)) dX9_goal_39 (by decide) ?_
      refine v_goto (tgt := 45) dX9_goal_41 (by decide) ?_
      refine v_iastore (len := 6) (j := P2) dX9_goal_45 rfl (ltn rfl) rfl (by decide) rfl (by omega) ?_
      refine v_iload_n dX9_goal_46 rfl 0 rfl ?_
      exact v_iret hr dX9_goal_47 (psi (by first | rfl | (simp only [bq, ifc_T, ifc_F, inr_m1, and_true, true_and, and_false, false_and, or_true, true_or, or_false, false_or, not_true_eq_false, not_false_eq_true, and_self, or_self, h1, t4, u5, l3, h6]; done) | (simp [bq, ifc_T, ifc_F, inr_m1, h1, t4, u5, l3, h6]; done) | ((try simp only [bq]); repeat (first | rfl | (refine eq_t ?_ ?_; focus (first | omega | assumption | (simp [inr_m1, h1, t4, u5, l3, h6]; done) | (simp [inr_m1, h1, t4, u5, l3, h6]; omega) | (simp only [u5]; omega) | (clear hr; (try clear hkn); simp_all; done))) | (refine eq_f ?_ ?_; focus (first | omega | assumption | (simp [inr_m1, h1, t4, u5, l3, h6]; done) | (simp [inr_m1, h1, t4, u5, l3, h6]; omega) | (simp only [u5]; omega) | (clear hr; (try clear hkn); simp_all; done))) | (simp only [t4]; done) | (exfalso; clear hr; (try clear hkn); simp_all; done)))) (by first | rfl | (simp only [bq, ifc_T, ifc_F, inr_m1, and_true, true_and, and_false, false_and, or_true, true_or, or_false, false_or, not_true_eq_false, not_false_eq_true, and_self, or_self, h1, t4, u5, l3, h6]; done) | (simp [bq, ifc_T, ifc_F, inr_m1, h1, t4, u5, l3, h6]; done) | ((try simp only [bq]); repeat (first | rfl | (refine eq_t ?_ ?_; focus (first | omega | assumption | (simp [inr_m1, h1, t4, u5, l3, h6]; done) | (simp [inr_m1, h1, t4, u5, l3, h6]; omega) | (simp only [u5]; omega) | (clear hr; (try clear hkn); simp_all; done))) | (refine eq_f ?_ ?_; focus (first | omega | assumption | (simp [inr_m1, h1, t4, u5, l3, h6]; done) | (simp [inr_m1, h1, t4, u5, l3, h6]; omega) | (simp only [u5]; omega) | (clear hr; (try clear hkn); simp_all; done))) | (simp only [t4]; done) | (exfalso; clear hr; (try clear hkn); simp_all; done)))))
    · -- c ne (-1)
      refine v_aload_n dX9_goal_13 rfl 0 rfl ?_
      refine v_iload_n dX9_goal_14 rfl 2 rfl ?_
      refine v_callVi (As := [.int c]) (rest := []) lk_X9_241 (c_X9_isCell c) dX9_goal_15 rfl (ltn rfl) rfl rfl (Nat.le_of_ble_eq_true rfl) (by decide) ?_
      refine v_ifb_ne (tgt := 23) dX9_goal_18 (by decide) (fun h8 => ?_) (fun h8 => ?_)
      · -- inr c 16
        obtain ⟨P9, rfl, l10, t11, u12⟩ := inr_ex h8 (by omega)
        refine v_aload_n dX9_goal_23 rfl 0 rfl ?_
        refine v_get (v := .ref (g.1 + 70)) fa_X9_29 dX9_goal_24 rfl (by decide) (ltn rfl) rfl ?_
        refine v_iload_n dX9_goal_27 rfl 1 rfl ?_
        refine v_iaload (len := 6) (j := P2) dX9_goal_28 rfl (ltn rfl) rfl (by decide) rfl (by omega) ?_
        refine v_istore_n (lv2 := [(3, .int (I 70 P2)), (0, .ref (g.1 + 65)), (1, .int (nI P2)), (2, .int (nI P9))]) dX9_goal_29 rfl (by decide) rfl ?_
        refine v_aload_n dX9_goal_30 rfl 1 rfl ?_
        refine v_get (v := .ref (g.1 + 70)) fa_X9_29 dX9_goal_31 rfl (by decide) (ltn rfl) rfl ?_
        refine v_iload_n dX9_goal_34 rfl 2 rfl ?_
        refine v_iload_n dX9_goal_35 rfl 3 rfl ?_
        refine v_if_geN (a := P9) (tgt := 44) dX9_goal_36 (by decide) rfl (by omega) (fun h13 => ?_) (fun h => by exfalso; omega)
        refine v_iload_n dX9_goal_44 rfl 3 rfl ?_
        refine v_iastore (len := 6) (j := P2) dX9_goal_45 rfl (ltn rfl) rfl (by decide) rfl (by omega) ?_
        refine v_iload_n dX9_goal_46 rfl 0 rfl ?_
        exact v_iret hr dX9_goal_47 (psi (by first | rfl | (simp only [bq, ifc_T, ifc_F, inr_m1, and_true, true_and, and_false, false_and, or_true, true_or, or_false, false_or, not_true_eq_false, not_false_eq_true, and_self, or_self, h1, t4, u5, l3, h6, h8, t11, u12, l10, h13]; done) | (simp [bq, ifc_T, ifc_F, inr_m1, h1, t4, u5, l3, h6, h8, t11, u12, l10, h13]; done) | ((try simp only [bq]); repeat (first | rfl | (refine eq_t ?_ ?_; focus (first | omega | assumption | (simp [inr_m1, h1, t4, u5, l3, h6, h8, t11, u12, l10, h13]; done) | (simp [inr_m1, h1, t4, u5, l3, h6, h8, t11, u12, l10, h13]; omega) | (simp only [u5, u12]; omega) | (clear hr; (try clear hkn); simp_all; done))) | (refine eq_f ?_ ?_; focus (first | omega | assumption | (simp [inr_m1, h1, t4, u5, l3, h6, h8, t11, u12, l10, h13]; done) | (simp [inr_m1, h1, t4, u5, l3, h6, h8, t11, u12, l10, h13]; omega) | (simp only [u5, u12]; omega) | (clear hr; (try clear hkn); simp_all; done))) | (simp only [t4, t11]; done) | (exfalso; clear hr; (try clear hkn); simp_all; done)))) (by first | rfl | (simp only [bq, ifc_T, ifc_F, inr_m1, and_true, true_and, and_false, false_and, or_true, true_or, or_false, false_or, not_true_eq_false, not_false_eq_true, and_self, or_self, h1, t4, u5, l3, h6, h8, t11, u12, l10, h13]; done) | (simp [bq, ifc_T, ifc_F, inr_m1, h1, t4, u5, l3, h6, h8, t11, u12, l10, h13]; done) | ((try simp only [bq]); repeat (first | rfl | (refine eq_t ?_ ?_; focus (first | omega | assumption | (simp [inr_m1, h1, t4, u5, l3, h6, h8, t11, u12, l10, h13]; done) | (simp [inr_m1, h1, t4, u5, l3, h6, h8, t11, u12, l10, h13]; omega) | (simp only [u5, u12]; omega) | (clear hr; (try clear hkn); simp_all; done))) | (refine eq_f ?_ ?_; focus (first | omega | assumption | (simp [inr_m1, h1, t4, u5, l3, h6, h8, t11, u12, l10, h13]; done) | (simp [inr_m1, h1, t4, u5, l3, h6, h8, t11, u12, l10, h13]; omega) | (simp only [u5, u12]; omega) | (clear hr; (try clear hkn); simp_all; done))) | (simp only [t4, t11]; done) | (exfalso; clear hr; (try clear hkn); simp_all; done)))))
      · -- not inr c 16
        refine v_iconst (v := (-1)) dX9_goal_21 (by decide) ?_
        exact v_iret hr dX9_goal_22 (psi (by first | rfl | (simp only [bq, ifc_T, ifc_F, inr_m1, and_true, true_and, and_false, false_and, or_true, true_or, or_false, false_or, not_true_eq_false, not_false_eq_true, and_self, or_self, h1, t4, u5, l3, h6, h8]; done) | (simp [bq, ifc_T, ifc_F, inr_m1, h1, t4, u5, l3, h6, h8]; done) | ((try simp only [bq]); repeat (first | rfl | (refine eq_t ?_ ?_; focus (first | omega | assumption | (simp [inr_m1, h1, t4, u5, l3, h6, h8]; done) | (simp [inr_m1, h1, t4, u5, l3, h6, h8]; omega) | (simp only [u5]; omega) | (clear hr; (try clear hkn); simp_all; done))) | (refine eq_f ?_ ?_; focus (first | omega | assumption | (simp [inr_m1, h1, t4, u5, l3, h6, h8]; done) | (simp [inr_m1, h1, t4, u5, l3, h6, h8]; omega) | (simp only [u5]; omega) | (clear hr; (try clear hkn); simp_all; done))) | (simp only [t4]; done) | (exfalso; clear hr; (try clear hkn); simp_all; done)))) (by first | rfl | (simp only [bq, ifc_T, ifc_F, inr_m1, and_true, true_and, and_false, false_and, or_true, true_or, or_false, false_or, not_true_eq_false, not_false_eq_true, and_self, or_self, h1, t4, u5, l3, h6, h8]; done) | (simp [bq, ifc_T, ifc_F, inr_m1, h1, t4, u5, l3, h6, h8]; done) | ((try simp only [bq]); repeat (first | rfl | (refine eq_t ?_ ?_; focus (first | omega | assumption | (simp [inr_m1, h1, t4, u5, l3, h6, h8]; done) | (simp [inr_m1, h1, t4, u5, l3, h6, h8]; omega) | (simp only [u5]; omega) | (clear hr; (try clear hkn); simp_all; done))) | (refine eq_f ?_ ?_; focus (first | omega | assumption | (simp [inr_m1, h1, t4, u5, l3, h6, h8]; done) | (simp [inr_m1, h1, t4, u5, l3, h6, h8]; omega) | (simp only [u5]; omega) | (clear hr; (try clear hkn); simp_all; done))) | (simp only [t4]; done) | (exfalso; clear hr; (try clear hkn); simp_all; done)))))
set_option maxRecDepth 100000 in
set_option maxHeartbeats 400000 in
theorem c_X9_put {g : Gl} {I : Ty} {L : TL} {na nt ni m : Nat} {nl : Nat → Nat} (p : Int32) (c : Int32) (pp : Nat) (hpp : pp ≤ 6) (hpe : I 65 0 = nI pp) : Ct g yX9_put cX9_put 4 (some .int) 3 0 0 [.ref (g.1 + 65), .int p, .int c] I L (RT na nt ni) (NT nl) (NB + m) (Ps (some (.int (ifc (inr p pp ∧ inr c 16) (I 69 (tn p)) (-1)))) (ifc (inr p pp ∧ inr c 16) (va_up I 69 (va_up (I 69) (tn p) c)) I) L (RT na nt ni) (NT nl) (NB + m)) := by
  refine ct_of (by decide +kernel) (Nat.le_of_ble_eq_true rfl) (fun F hnm hr => ?_)
  clear hnm
  show V g F cX9_put RX9 4 3 0 [(0, .ref (g.1 + 65)), (1, .int p), (2, .int c)] [] I L (RT na nt ni) (NT nl) (NB + m) 0 0
  refine v_aload_n dX9_put_0 rfl 0 rfl ?_
  refine v_iload_n dX9_put_1 rfl 1 rfl ?_
  refine v_callVi (As := [.int p]) (rest := []) lk_X9_245 (c_X9_isOne p pp hpp hpe) dX9_put_2 rfl (ltn rfl) rfl rfl (Nat.le_of_ble_eq_true rfl) (by decide) ?_
  refine v_ifb_eq (tgt := 16) dX9_put_5 (by decide) (fun h1 => ?_) (fun h1 => ?_)
  · -- not inr p pp
    refine v_iconst (v := (-1)) dX9_put_16 (by decide) ?_
    exact v_iret hr dX9_put_17 (psi (by first | rfl | (simp only [bq, ifc_T, ifc_F, inr_m1, and_true, true_and, and_false, false_and, or_true, true_or, or_false, false_or, not_true_eq_false, not_false_eq_true, and_self, or_self, h1]; done) | (simp [bq, ifc_T, ifc_F, inr_m1, h1]; done) | ((try simp only [bq]); repeat (first | rfl | (refine eq_t ?_ ?_; focus (first | omega | assumption | (simp [inr_m1, h1]; done) | (simp [inr_m1, h1]; omega) | (clear hr; (try clear hkn); simp_all; done))) | (refine eq_f ?_ ?_; focus (first | omega | assumption | (simp [inr_m1, h1]; done) | (simp [inr_m1, h1]; omega) | (clear hr; (try clear hkn); simp_all; done))) | (exfalso; clear hr; (try clear hkn); simp_all; done)))) (by first | rfl | (simp only [bq, ifc_T, ifc_F, inr_m1, and_true, true_and, and_false, false_and, or_true, true_or, or_false, false_or, not_true_eq_false, not_false_eq_true, and_self, or_self, h1]; done) | (simp [bq, ifc_T, ifc_F, inr_m1, h1]; done) | ((try simp only [bq]); repeat (first | rfl | (refine eq_t ?_ ?_; focus (first | omega | assumption | (simp [inr_m1, h1]; done) | (simp [inr_m1, h1]; omega) | (clear hr; (try clear hkn); simp_all; done))) | (refine eq_f ?_ ?_; focus (first | omega | assumption | (simp [inr_m1, h1]; done) | (simp [inr_m1, h1]; omega) | (clear hr; (try clear hkn); simp_all; done))) | (exfalso; clear hr; (try clear hkn); simp_all; done)))))
  · -- inr p pp
    obtain ⟨P2, rfl, l3, t4, u5⟩ := inr_ex h1 (by omega)
    refine v_aload_n dX9_put_8 rfl 0 rfl ?_
    refine v_iload_n dX9_put_9 rfl 2 rfl ?_
    refine v_callVi (As := [.int c]) (rest := []) lk_X9_241 (c_X9_isCell c) dX9_put_10 rfl (ltn rfl) rfl rfl (Nat.le_of_ble_eq_true rfl) (by decide) ?_
    refine v_ifb_ne (tgt := 18) dX9_put_13 (by decide) (fun h6 => ?_) (fun h6 => ?_)
    · -- inr c 16
      obtain ⟨P7, rfl, l8, t9, u10⟩ := inr_ex h6 (by omega)
      refine v_aload_n dX9_put_18 rfl 0 rfl ?_
      refine v_get (v := .ref (g.1 + 69)) fa_X9_26 dX9_put_19 rfl (by decide) (ltn rfl) rfl ?_
      refine v_iload_n dX9_put_22 rfl 1 rfl ?_
      refine v_iaload (len := 6) (j := P2) dX9_put_23 rfl (ltn rfl) rfl (by decide) rfl (by omega) ?_
      refine v_istore_n (lv2 := [(3, .int (I 69 P2)), (0, .ref (g.1 + 65)), (1, .int (nI P2)), (2, .int (nI P7))]) dX9_put_24 rfl (by decide) rfl ?_
      refine v_aload_n dX9_put_25 rfl 1 rfl ?_
      refine v_get (v := .ref (g.1 + 69)) fa_X9_26 dX9_put_26 rfl (by decide) (ltn rfl) rfl ?_
      refine v_iload_n dX9_put_29 rfl 2 rfl ?_
      refine v_iload_n dX9_put_30 rfl 3 rfl ?_
      refine v_iastore (len := 6) (j := P2) dX9_put_31 rfl (ltn rfl) rfl (by decide) rfl (by omega) ?_
      refine v_iload_n dX9_put_32 rfl 0 rfl ?_
      exact v_iret hr dX9_put_33 (psi (by first | rfl | (simp only [bq, ifc_T, ifc_F, inr_m1, and_true, true_and, and_false, false_and, or_true, true_or, or_false, false_or, not_true_eq_false, not_false_eq_true, and_self, or_self, h1, t4, u5, l3, h6, t9, u10, l8]; done) | (simp [bq, ifc_T, ifc_F, inr_m1, h1, t4, u5, l3, h6, t9, u10, l8]; done) | ((try simp only [bq]); repeat (first | rfl | (refine eq_t ?_ ?_; focus (first | omega | assumption | (simp [inr_m1, h1, t4, u5, l3, h6, t9, u10, l8]; done) | (simp [inr_m1, h1, t4, u5, l3, h6, t9, u10, l8]; omega) | (simp only [u5, u10]; omega) | (clear hr; (try clear hkn); simp_all; done))) | (refine eq_f ?_ ?_; focus (first | omega | assumption | (simp [inr_m1, h1, t4, u5, l3, h6, t9, u10, l8]; done) | (simp [inr_m1, h1, t4, u5, l3, h6, t9, u10, l8]; omega) | (simp only [u5, u10]; omega) | (clear hr; (try clear hkn); simp_all; done))) | (simp only [t4, t9]; done) | (exfalso; clear hr; (try clear hkn); simp_all; done)))) (by first | rfl | (simp only [bq, ifc_T, ifc_F, inr_m1, and_true, true_and, and_false, false_and, or_true, true_or, or_false, false_or, not_true_eq_false, not_false_eq_true, and_self, or_self, h1, t4, u5, l3, h6, t9, u10, l8]; done) | (simp [bq, ifc_T, ifc_F, inr_m1, h1, t4, u5, l3, h6, t9, u10, l8]; done) | ((try simp only [bq]); repeat (first | rfl | (refine eq_t ?_ ?_; focus (first | omega | assumption | (simp [inr_m1, h1, t4, u5, l3, h6, t9, u10, l8]; done) | (simp [inr_m1, h1, t4, u5, l3, h6, t9, u10, l8]; omega) | (simp only [u5, u10]; omega) | (clear hr; (try clear hkn); simp_all; done))) | (refine eq_f ?_ ?_; focus (first | omega | assumption | (simp [inr_m1, h1, t4, u5, l3, h6, t9, u10, l8]; done) | (simp [inr_m1, h1, t4, u5, l3, h6, t9, u10, l8]; omega) | (simp only [u5, u10]; omega) | (clear hr; (try clear hkn); simp_all; done))) | (simp only [t4, t9]; done) | (exfalso; clear hr; (try clear hkn); simp_all; done)))))
    · -- not inr c 16
      refine v_iconst (v := (-1)) dX9_put_16 (by decide) ?_
      exact v_iret hr dX9_put_17 (psi (by first | rfl | (simp only [bq, ifc_T, ifc_F, inr_m1, and_true, true_and, and_false, false_and, or_true, true_or, or_false, false_or, not_true_eq_false, not_false_eq_true, and_self, or_self, h1, t4, u5, l3, h6]; done) | (simp [bq, ifc_T, ifc_F, inr_m1, h1, t4, u5, l3, h6]; done) | ((try simp only [bq]); repeat (first | rfl | (refine eq_t ?_ ?_; focus (first | omega | assumption | (simp [inr_m1, h1, t4, u5, l3, h6]; done) | (simp [inr_m1, h1, t4, u5, l3, h6]; omega) | (simp only [u5]; omega) | (clear hr; (try clear hkn); simp_all; done))) | (refine eq_f ?_ ?_; focus (first | omega | assumption | (simp [inr_m1, h1, t4, u5, l3, h6]; done) | (simp [inr_m1, h1, t4, u5, l3, h6]; omega) | (simp only [u5]; omega) | (clear hr; (try clear hkn); simp_all; done))) | (simp only [t4]; done) | (exfalso; clear hr; (try clear hkn); simp_all; done)))) (by first | rfl | (simp only [bq, ifc_T, ifc_F, inr_m1, and_true, true_and, and_false, false_and, or_true, true_or, or_false, false_or, not_true_eq_false, not_false_eq_true, and_self, or_self, h1, t4, u5, l3, h6]; done) | (simp [bq, ifc_T, ifc_F, inr_m1, h1, t4, u5, l3, h6]; done) | ((try simp only [bq]); repeat (first | rfl | (refine eq_t ?_ ?_; focus (first | omega | assumption | (simp [inr_m1, h1, t4, u5, l3, h6]; done) | (simp [inr_m1, h1, t4, u5, l3, h6]; omega) | (simp only [u5]; omega) | (clear hr; (try clear hkn); simp_all; done))) | (refine eq_f ?_ ?_; focus (first | omega | assumption | (simp [inr_m1, h1, t4, u5, l3, h6]; done) | (simp [inr_m1, h1, t4, u5, l3, h6]; omega) | (simp only [u5]; omega) | (clear hr; (try clear hkn); simp_all; done))) | (simp only [t4]; done) | (exfalso; clear hr; (try clear hkn); simp_all; done)))))
set_option maxRecDepth 100000 in
set_option maxHeartbeats 400000 in
theorem c_X9_chart {g : Gl} {I : Ty} {L : TL} {na nt ni m : Nat} {nl : Nat → Nat} (p : Int32) (x : Int32) (pp : Nat) (hpp : pp ≤ 6) (hpe : I 65 0 = nI pp) : Ct g yX9_chart cX9_chart 4 (some .int) 3 0 0 [.ref (g.1 + 65), .int p, .int x] I L (RT na nt ni) (NT nl) (NB + m) (Ps (some (.int (ifc (inr p pp) (ifc (inr x 65536) (I 71 (tn p)) (-2)) (-1)))) (ifc (inr p pp ∧ inr x 65536) (va_up I 71 (va_up (I 71) (tn p) x)) I) L (RT na nt ni) (NT nl) (NB + m)) := by
  refine ct_of (by decide +kernel) (Nat.le_of_ble_eq_true rfl) (fun F hnm hr => ?_)
  clear hnm
  show V g F cX9_chart RX9 4 3 0 [(0, .ref (g.1 + 65)), (1, .int p), (2, .int x)] [] I L (RT na nt ni) (NT nl) (NB + m) 0 0
  refine v_aload_n dX9_chart_0 rfl 0 rfl ?_
  refine v_iload_n dX9_chart_1 rfl 1 rfl ?_
  refine v_callVi (As := [.int p]) (rest := []) lk_X9_245 (c_X9_isOne p pp hpp hpe) dX9_chart_2 rfl (ltn rfl) rfl rfl (Nat.le_of_ble_eq_true rfl) (by decide) ?_
  refine v_ifb_ne (tgt := 10) dX9_chart_5 (by decide) (fun h1 => ?_) (fun h1 => ?_)
  · -- inr p pp
    obtain ⟨P2, rfl, l3, t4, u5⟩ := inr_ex h1 (by omega)
    refine v_aload_n dX9_chart_10 rfl 0 rfl ?_
    refine v_iload_n dX9_chart_11 rfl 2 rfl ?_
    refine v_iconst (v := 0) dX9_chart_12 (by decide) ?_
    refine v_ldc dX9_chart_13 uc_X9_248 ?_
    refine v_callVi (As := [.int x, .int 0, .int 65535]) (rest := []) lk_X9_237 (c_in0 x 65535 (by decide)) dX9_chart_15 rfl (ltn rfl) rfl rfl (Nat.le_of_ble_eq_true rfl) (by decide) ?_
    refine v_ifb_ne (tgt := 24) dX9_chart_18 (by decide) (fun h6 => ?_) (fun h6 => ?_)
    · -- inr x 65536
      obtain ⟨P7, rfl, l8, t9, u10⟩ := inr_ex h6 (by omega)
      refine v_aload_n dX9_chart_24 rfl 0 rfl ?_
      refine v_get (v := .ref (g.1 + 71)) fa_X9_32 dX9_chart_25 rfl (by decide) (ltn rfl) rfl ?_
      refine v_iload_n dX9_chart_28 rfl 1 rfl ?_
      refine v_iaload (len := 6) (j := P2) dX9_chart_29 rfl (ltn rfl) rfl (by decide) rfl (by omega) ?_
      refine v_istore_n (lv2 := [(3, .int (I 71 P2)), (0, .ref (g.1 + 65)), (1, .int (nI P2)), (2, .int (nI P7))]) dX9_chart_30 rfl (by decide) rfl ?_
      refine v_aload_n dX9_chart_31 rfl 1 rfl ?_
      refine v_get (v := .ref (g.1 + 71)) fa_X9_32 dX9_chart_32 rfl (by decide) (ltn rfl) rfl ?_
      refine v_iload_n dX9_chart_35 rfl 2 rfl ?_
      refine v_iload_n dX9_chart_36 rfl 3 rfl ?_
      refine v_iastore (len := 6) (j := P2) dX9_chart_37 rfl (ltn rfl) rfl (by decide) rfl (by omega) ?_
      refine v_iload_n dX9_chart_38 rfl 0 rfl ?_
      exact v_iret hr dX9_chart_39 (psi (by first | rfl | (simp only [bq, ifc_T, ifc_F, inr_m1, and_true, true_and, and_false, false_and, or_true, true_or, or_false, false_or, not_true_eq_false, not_false_eq_true, and_self, or_self, h1, t4, u5, l3, h6, t9, u10, l8]; done) | (simp [bq, ifc_T, ifc_F, inr_m1, h1, t4, u5, l3, h6, t9, u10, l8]; done) | ((try simp only [bq]); repeat (first | rfl | (refine eq_t ?_ ?_; focus (first | omega | assumption | (simp [inr_m1, h1, t4, u5, l3, h6, t9, u10, l8]; done) | (simp [inr_m1, h1, t4, u5, l3, h6, t9, u10, l8]; omega) | (simp only [u5, u10]; omega) | (clear hr; (try clear hkn); simp_all; done))) | (refine eq_f ?_ ?_; focus (first | omega | assumption | (simp [inr_m1, h1, t4, u5, l3, h6, t9, u10, l8]; done) | (simp [inr_m1, h1, t4, u5, l3, h6, t9, u10, l8]; omega) | (simp only [u5, u10]; omega) | (clear hr; (try clear hkn); simp_all; done))) | (simp only [t4, t9]; done) | (exfalso; clear hr; (try clear hkn); simp_all; done)))) (by first | rfl | (simp only [bq, ifc_T, ifc_F, inr_m1, and_true, true_and, and_false, false_and, or_true, true_or, or_false, false_or, not_true_eq_false, not_false_eq_true, and_self, or_self, h1, t4, u5, l3, h6, t9, u10, l8]; done) | (simp [bq, ifc_T, ifc_F, inr_m1, h1, t4, u5, l3, h6, t9, u10, l8]; done) | ((try simp only [bq]); repeat (first | rfl | (refine eq_t ?_ ?_; focus (first | omega | assumption | (simp [inr_m1, h1, t4, u5, l3, h6, t9, u10, l8]; done) | (simp [inr_m1, h1, t4, u5, l3, h6, t9, u10, l8]; omega) | (simp only [u5, u10]; omega) | (clear hr; (try clear hkn); simp_all; done))) | (refine eq_f ?_ ?_; focus (first | omega | assumption | (simp [inr_m1, h1, t4, u5, l3, h6, t9, u10, l8]; done) | (simp [inr_m1, h1, t4, u5, l3, h6, t9, u10, l8]; omega) | (simp only [u5, u10]; omega) | (clear hr; (try clear hkn); simp_all; done))) | (simp only [t4, t9]; done) | (exfalso; clear hr; (try clear hkn); simp_all; done)))))
    · -- not inr x 65536
      refine v_bipush (v := (-2)) dX9_chart_21 (by decide) ?_
      exact v_iret hr dX9_chart_23 (psi (by first | rfl | (simp only [bq, ifc_T, ifc_F, inr_m1, and_true, true_and, and_false, false_and, or_true, true_or, or_false, false_or, not_true_eq_false, not_false_eq_true, and_self, or_self, h1, t4, u5, l3, h6]; done) | (simp [bq, ifc_T, ifc_F, inr_m1, h1, t4, u5, l3, h6]; done) | ((try simp only [bq]); repeat (first | rfl | (refine eq_t ?_ ?_; focus (first | omega | assumption | (simp [inr_m1, h1, t4, u5, l3, h6]; done) | (simp [inr_m1, h1, t4, u5, l3, h6]; omega) | (simp only [u5]; omega) | (clear hr; (try clear hkn); simp_all; done))) | (refine eq_f ?_ ?_; focus (first | omega | assumption | (simp [inr_m1, h1, t4, u5, l3, h6]; done) | (simp [inr_m1, h1, t4, u5, l3, h6]; omega) | (simp only [u5]; omega) | (clear hr; (try clear hkn); simp_all; done))) | (simp only [t4]; done) | (exfalso; clear hr; (try clear hkn); simp_all; done)))) (by first | rfl | (simp only [bq, ifc_T, ifc_F, inr_m1, and_true, true_and, and_false, false_and, or_true, true_or, or_false, false_or, not_true_eq_false, not_false_eq_true, and_self, or_self, h1, t4, u5, l3, h6]; done) | (simp [bq, ifc_T, ifc_F, inr_m1, h1, t4, u5, l3, h6]; done) | ((try simp only [bq]); repeat (first | rfl | (refine eq_t ?_ ?_; focus (first | omega | assumption | (simp [inr_m1, h1, t4, u5, l3, h6]; done) | (simp [inr_m1, h1, t4, u5, l3, h6]; omega) | (simp only [u5]; omega) | (clear hr; (try clear hkn); simp_all; done))) | (refine eq_f ?_ ?_; focus (first | omega | assumption | (simp [inr_m1, h1, t4, u5, l3, h6]; done) | (simp [inr_m1, h1, t4, u5, l3, h6]; omega) | (simp only [u5]; omega) | (clear hr; (try clear hkn); simp_all; done))) | (simp only [t4]; done) | (exfalso; clear hr; (try clear hkn); simp_all; done)))))
  · -- not inr p pp
    refine v_iconst (v := (-1)) dX9_chart_8 (by decide) ?_
    exact v_iret hr dX9_chart_9 (psi (by first | rfl | (simp only [bq, ifc_T, ifc_F, inr_m1, and_true, true_and, and_false, false_and, or_true, true_or, or_false, false_or, not_true_eq_false, not_false_eq_true, and_self, or_self, h1]; done) | (simp [bq, ifc_T, ifc_F, inr_m1, h1]; done) | ((try simp only [bq]); repeat (first | rfl | (refine eq_t ?_ ?_; focus (first | omega | assumption | (simp [inr_m1, h1]; done) | (simp [inr_m1, h1]; omega) | (clear hr; (try clear hkn); simp_all; done))) | (refine eq_f ?_ ?_; focus (first | omega | assumption | (simp [inr_m1, h1]; done) | (simp [inr_m1, h1]; omega) | (clear hr; (try clear hkn); simp_all; done))) | (exfalso; clear hr; (try clear hkn); simp_all; done)))) (by first | rfl | (simp only [bq, ifc_T, ifc_F, inr_m1, and_true, true_and, and_false, false_and, or_true, true_or, or_false, false_or, not_true_eq_false, not_false_eq_true, and_self, or_self, h1]; done) | (simp [bq, ifc_T, ifc_F, inr_m1, h1]; done) | ((try simp only [bq]); repeat (first | rfl | (refine eq_t ?_ ?_; focus (first | omega | assumption | (simp [inr_m1, h1]; done) | (simp [inr_m1, h1]; omega) | (clear hr; (try clear hkn); simp_all; done))) | (refine eq_f ?_ ?_; focus (first | omega | assumption | (simp [inr_m1, h1]; done) | (simp [inr_m1, h1]; omega) | (clear hr; (try clear hkn); simp_all; done))) | (exfalso; clear hr; (try clear hkn); simp_all; done)))))
set_option maxRecDepth 100000 in
set_option maxHeartbeats 400000 in
theorem c_X9_gate {g : Gl} {I : Ty} {L : TL} {na nt ni m : Nat} {nl : Nat → Nat} (c : Int32) (n : Int32)  : Ct g yX9_gate cX9_gate 4 (some .int) 3 0 0 [.ref (g.1 + 65), .int c, .int n] I L (RT na nt ni) (NT nl) (NB + m) (Ps (some (.int (ifc (inr c 16) (ifc (inr n 10) (I 66 (tn c)) (-2)) (-1)))) (ifc (inr c 16 ∧ inr n 10) (va_up I 66 (va_up (I 66) (tn c) n)) I) L (RT na nt ni) (NT nl) (NB + m)) := by
  refine ct_of (by decide +kernel) (Nat.le_of_ble_eq_true rfl) (fun F hnm hr => ?_)
  clear hnm
  show V g F cX9_gate RX9 4 3 0 [(0, .ref (g.1 + 65)), (1, .int c), (2, .int n)] [] I L (RT na nt ni) (NT nl) (NB + m) 0 0
  refine v_aload_n dX9_gate_0 rfl 0 rfl ?_
  refine v_iload_n dX9_gate_1 rfl 1 rfl ?_
  refine v_callVi (As := [.int c]) (rest := []) lk_X9_241 (c_X9_isCell c) dX9_gate_2 rfl (ltn rfl) rfl rfl (Nat.le_of_ble_eq_true rfl) (by decide) ?_
  refine v_ifb_ne (tgt := 10) dX9_gate_5 (by decide) (fun h1 => ?_) (fun h1 => ?_)
  · -- inr c 16
    obtain ⟨P2, rfl, l3, t4, u5⟩ := inr_ex h1 (by omega)
    refine v_aload_n dX9_gate_10 rfl 0 rfl ?_
    refine v_iload_n dX9_gate_11 rfl 2 rfl ?_
    refine v_iconst (v := 0) dX9_gate_12 (by decide) ?_
    refine v_bipush (v := 9) dX9_gate_13 (by decide) ?_
    refine v_callVi (As := [.int n, .int 0, .int 9]) (rest := []) lk_X9_237 (c_in0 n 9 (by decide)) dX9_gate_15 rfl (ltn rfl) rfl rfl (Nat.le_of_ble_eq_true rfl) (by decide) ?_
    refine v_ifb_ne (tgt := 24) dX9_gate_18 (by decide) (fun h6 => ?_) (fun h6 => ?_)
    · -- inr n 10
      obtain ⟨P7, rfl, l8, t9, u10⟩ := inr_ex h6 (by omega)
      refine v_aload_n dX9_gate_24 rfl 0 rfl ?_
      refine v_get (v := .ref (g.1 + 66)) fa_X9_16 dX9_gate_25 rfl (by decide) (ltn rfl) rfl ?_
      refine v_iload_n dX9_gate_28 rfl 1 rfl ?_
      refine v_iaload (len := 16) (j := P2) dX9_gate_29 rfl (ltn rfl) rfl (by decide) rfl (by omega) ?_
      refine v_istore_n (lv2 := [(3, .int (I 66 P2)), (0, .ref (g.1 + 65)), (1, .int (nI P2)), (2, .int (nI P7))]) dX9_gate_30 rfl (by decide) rfl ?_
      refine v_aload_n dX9_gate_31 rfl 1 rfl ?_
      refine v_get (v := .ref (g.1 + 66)) fa_X9_16 dX9_gate_32 rfl (by decide) (ltn rfl) rfl ?_
      refine v_iload_n dX9_gate_35 rfl 2 rfl ?_
      refine v_iload_n dX9_gate_36 rfl 3 rfl ?_
      refine v_iastore (len := 16) (j := P2) dX9_gate_37 rfl (ltn rfl) rfl (by decide) rfl (by omega) ?_
      refine v_iload_n dX9_gate_38 rfl 0 rfl ?_
      exact v_iret hr dX9_gate_39 (psi (by first | rfl | (simp only [bq, ifc_T, ifc_F, inr_m1, and_true, true_and, and_false, false_and, or_true, true_or, or_false, false_or, not_true_eq_false, not_false_eq_true, and_self, or_self, h1, t4, u5, l3, h6, t9, u10, l8]; done) | (simp [bq, ifc_T, ifc_F, inr_m1, h1, t4, u5, l3, h6, t9, u10, l8]; done) | ((try simp only [bq]); repeat (first | rfl | (refine eq_t ?_ ?_; focus (first | omega | assumption | (simp [inr_m1, h1, t4, u5, l3, h6, t9, u10, l8]; done) | (simp [inr_m1, h1, t4, u5, l3, h6, t9, u10, l8]; omega) | (simp only [u5, u10]; omega) | (clear hr; (try clear hkn); simp_all; done))) | (refine eq_f ?_ ?_; focus (first | omega | assumption | (simp [inr_m1, h1, t4, u5, l3, h6, t9, u10, l8]; done) | (simp [inr_m1, h1, t4, u5, l3, h6, t9, u10, l8]; omega) | (simp only [u5, u10]; omega) | (clear hr; (try clear hkn); simp_all; done))) | (simp only [t4, t9]; done) | (exfalso; clear hr; (try clear hkn); simp_all; done)))) (by first | rfl | (simp only [bq, ifc_T, ifc_F, inr_m1, and_true, true_and, and_false, false_and, or_true, true_or, or_false, false_or, not_true_eq_false, not_false_eq_true, and_self, or_self, h1, t4, u5, l3, h6, t9, u10, l8]; done) | (simp [bq, ifc_T, ifc_F, inr_m1, h1, t4, u5, l3, h6, t9, u10, l8]; done) | ((try simp only [bq]); repeat (first | rfl | (refine eq_t ?_ ?_; focus (first | omega | assumption | (simp [inr_m1, h1, t4, u5, l3, h6, t9, u10, l8]; done) | (simp [inr_m1, h1, t4, u5, l3, h6, t9, u10, l8]; omega) | (simp only [u5, u10]; omega) | (clear hr; (try clear hkn); simp_all; done))) | (refine eq_f ?_ ?_; focus (first | omega | assumption | (simp [inr_m1, h1, t4, u5, l3, h6, t9, u10, l8]; done) | (simp [inr_m1, h1, t4, u5, l3, h6, t9, u10, l8]; omega) | (simp only [u5, u10]; omega) | (clear hr; (try clear hkn); simp_all; done))) | (simp only [t4, t9]; done) | (exfalso; clear hr; (try clear hkn); simp_all; done)))))
    · -- not inr n 10
      refine v_bipush (v := (-2)) dX9_gate_21 (by decide) ?_
      exact v_iret hr dX9_gate_23 (psi (by first | rfl | (simp only [bq, ifc_T, ifc_F, inr_m1, and_true, true_and, and_false, false_and, or_true, true_or, or_false, false_or, not_true_eq_false, not_false_eq_true, and_self, or_self, h1, t4, u5, l3, h6]; done) | (simp [bq, ifc_T, ifc_F, inr_m1, h1, t4, u5, l3, h6]; done) | ((try simp only [bq]); repeat (first | rfl | (refine eq_t ?_ ?_; focus (first | omega | assumption | (simp [inr_m1, h1, t4, u5, l3, h6]; done) | (simp [inr_m1, h1, t4, u5, l3, h6]; omega) | (simp only [u5]; omega) | (clear hr; (try clear hkn); simp_all; done))) | (refine eq_f ?_ ?_; focus (first | omega | assumption | (simp [inr_m1, h1, t4, u5, l3, h6]; done) | (simp [inr_m1, h1, t4, u5, l3, h6]; omega) | (simp only [u5]; omega) | (clear hr; (try clear hkn); simp_all; done))) | (simp only [t4]; done) | (exfalso; clear hr; (try clear hkn); simp_all; done)))) (by first | rfl | (simp only [bq, ifc_T, ifc_F, inr_m1, and_true, true_and, and_false, false_and, or_true, true_or, or_false, false_or, not_true_eq_false, not_false_eq_true, and_self, or_self, h1, t4, u5, l3, h6]; done) | (simp [bq, ifc_T, ifc_F, inr_m1, h1, t4, u5, l3, h6]; done) | ((try simp only [bq]); repeat (first | rfl | (refine eq_t ?_ ?_; focus (first | omega | assumption | (simp [inr_m1, h1, t4, u5, l3, h6]; done) | (simp [inr_m1, h1, t4, u5, l3, h6]; omega) | (simp only [u5]; omega) | (clear hr; (try clear hkn); simp_all; done))) | (refine eq_f ?_ ?_; focus (first | omega | assumption | (simp [inr_m1, h1, t4, u5, l3, h6]; done) | (simp [inr_m1, h1, t4, u5, l3, h6]; omega) | (simp only [u5]; omega) | (clear hr; (try clear hkn); simp_all; done))) | (simp only [t4]; done) | (exfalso; clear hr; (try clear hkn); simp_all; done)))))
  · -- not inr c 16
    refine v_iconst (v := (-1)) dX9_gate_8 (by decide) ?_
    exact v_iret hr dX9_gate_9 (psi (by first | rfl | (simp only [bq, ifc_T, ifc_F, inr_m1, and_true, true_and, and_false, false_and, or_true, true_or, or_false, false_or, not_true_eq_false, not_false_eq_true, and_self, or_self, h1]; done) | (simp [bq, ifc_T, ifc_F, inr_m1, h1]; done) | ((try simp only [bq]); repeat (first | rfl | (refine eq_t ?_ ?_; focus (first | omega | assumption | (simp [inr_m1, h1]; done) | (simp [inr_m1, h1]; omega) | (clear hr; (try clear hkn); simp_all; done))) | (refine eq_f ?_ ?_; focus (first | omega | assumption | (simp [inr_m1, h1]; done) | (simp [inr_m1, h1]; omega) | (clear hr; (try clear hkn); simp_all; done))) | (exfalso; clear hr; (try clear hkn); simp_all; done)))) (by first | rfl | (simp only [bq, ifc_T, ifc_F, inr_m1, and_true, true_and, and_false, false_and, or_true, true_or, or_false, false_or, not_true_eq_false, not_false_eq_true, and_self, or_self, h1]; done) | (simp [bq, ifc_T, ifc_F, inr_m1, h1]; done) | ((try simp only [bq]); repeat (first | rfl | (refine eq_t ?_ ?_; focus (first | omega | assumption | (simp [inr_m1, h1]; done) | (simp [inr_m1, h1]; omega) | (clear hr; (try clear hkn); simp_all; done))) | (refine eq_f ?_ ?_; focus (first | omega | assumption | (simp [inr_m1, h1]; done) | (simp [inr_m1, h1]; omega) | (clear hr; (try clear hkn); simp_all; done))) | (exfalso; clear hr; (try clear hkn); simp_all; done)))))
set_option maxRecDepth 100000 in
set_option maxHeartbeats 400000 in
theorem c_X9_row {g : Gl} {I : Ty} {L : TL} {na nt ni m : Nat} {nl : Nat → Nat} (p : Int32) (q : Int32) (n : Int32) (pp : Nat) (hpp : pp ≤ 6) (hpe : I 65 0 = nI pp) : Ct g yX9_row cX9_row 5 (some .int) 3 0 0 [.ref (g.1 + 65), .int p, .int q, .int n] I L (RT na nt ni) (NT nl) (NB + m) (Ps (some (.int (ifc (inr p pp ∧ inr q 4) (ifc (inr n 10) (ifc (I 67 (tn p) = 6) (I 73 (4 * tn p + tn q)) (-3)) (-2)) (-1)))) (ifc (inr p pp ∧ inr q 4 ∧ inr n 10 ∧ I 67 (tn p) = 6) (va_up I 73 (va_up (I 73) (4 * tn p + tn q) n)) I) L (RT na nt ni) (NT nl) (NB + m)) := by
  refine ct_of (by decide +kernel) (Nat.le_of_ble_eq_true rfl) (fun F hnm hr => ?_)
  clear hnm
  show V g F cX9_row RX9 5 3 0 [(0, .ref (g.1 + 65)), (1, .int p), (2, .int q), (3, .int n)] [] I L (RT na nt ni) (NT nl) (NB + m) 0 0
  refine v_aload_n dX9_row_0 rfl 0 rfl ?_
  refine v_iload_n dX9_row_1 rfl 1 rfl ?_
  refine v_callVi (As := [.int p]) (rest := []) lk_X9_245 (c_X9_isOne p pp hpp hpe) dX9_row_2 rfl (ltn rfl) rfl rfl (Nat.le_of_ble_eq_true rfl) (by decide) ?_
  refine v_ifb_eq (tgt := 18) dX9_row_5 (by decide) (fun h1 => ?_) (fun h1 => ?_)
  · -- not inr p pp
    refine v_iconst (v := (-1)) dX9_row_18 (by decide) ?_
    exact v_iret hr dX9_row_19 (psi (by first | rfl | (simp only [bq, ifc_T, ifc_F, inr_m1, and_true, true_and, and_false, false_and, or_true, true_or, or_false, false_or, not_true_eq_false, not_false_eq_true, and_self, or_self, h1]; done) | (simp [bq, ifc_T, ifc_F, inr_m1, h1]; done) | ((try simp only [bq]); repeat (first | rfl | (refine eq_t ?_ ?_; focus (first | omega | assumption | (simp [inr_m1, h1]; done) | (simp [inr_m1, h1]; omega) | (clear hr; (try clear hkn); simp_all; done))) | (refine eq_f ?_ ?_; focus (first | omega | assumption | (simp [inr_m1, h1]; done) | (simp [inr_m1, h1]; omega) | (clear hr; (try clear hkn); simp_all; done))) | (exfalso; clear hr; (try clear hkn); simp_all; done)))) (by first | rfl | (simp only [bq, ifc_T, ifc_F, inr_m1, and_true, true_and, and_false, false_and, or_true, true_or, or_false, false_or, not_true_eq_false, not_false_eq_true, and_self, or_self, h1]; done) | (simp [bq, ifc_T, ifc_F, inr_m1, h1]; done) | ((try simp only [bq]); repeat (first | rfl | (refine eq_t ?_ ?_; focus (first | omega | assumption | (simp [inr_m1, h1]; done) | (simp [inr_m1, h1]; omega) | (clear hr; (try clear hkn); simp_all; done))) | (refine eq_f ?_ ?_; focus (first | omega | assumption | (simp [inr_m1, h1]; done) | (simp [inr_m1, h1]; omega) | (clear hr; (try clear hkn); simp_all; done))) | (exfalso; clear hr; (try clear hkn); simp_all; done)))))
  · -- inr p pp
    obtain ⟨P2, rfl, l3, t4, u5⟩ := inr_ex h1 (by omega)
    refine v_aload_n dX9_row_8 rfl 0 rfl ?_
    refine v_iload_n dX9_row_9 rfl 2 rfl ?_
    refine v_iconst (v := 0) dX9_row_10 (by decide) ?_
    refine v_iconst (v := 3) dX9_row_11 (by decide) ?_
    refine v_callVi (As := [.int q, .int 0, .int 3]) (rest := []) lk_X9_237 (c_in0 q 3 (by decide)) dX9_row_12 rfl (ltn rfl) rfl rfl (Nat.le_of_ble_eq_true rfl) (by decide) ?_
    refine v_ifb_ne (tgt := 20) dX9_row_15 (by decide) (fun h6 => ?_) (fun h6 => ?_)
    · -- inr q 4
      obtain ⟨P7, rfl, l8, t9, u10⟩ := inr_ex h6 (by omega)
      refine v_aload_n dX9_row_20 rfl 0 rfl ?_
      refine v_iload_n dX9_row_21 rfl 3 rfl ?_
      refine v_iconst (v := 0) dX9_row_22 (by decide) ?_
      refine v_bipush (v := 9) dX9_row_23 (by decide) ?_
      refine v_callVi (As := [.int n, .int 0, .int 9]) (rest := []) lk_X9_237 (c_in0 n 9 (by decide)) dX9_row_25 rfl (ltn rfl) rfl rfl (Nat.le_of_ble_eq_true rfl) (by decide) ?_
      refine v_ifb_ne (tgt := 34) dX9_row_28 (by decide) (fun h11 => ?_) (fun h11 => ?_)
      · -- inr n 10
        obtain ⟨P12, rfl, l13, t14, u15⟩ := inr_ex h11 (by omega)
        refine v_aload_n dX9_row_34 rfl 0 rfl ?_
        refine v_get (v := .ref (g.1 + 67)) fa_X9_20 dX9_row_35 rfl (by decide) (ltn rfl) rfl ?_
        refine v_iload_n dX9_row_38 rfl 1 rfl ?_
        refine v_iaload (len := 6) (j := P2) dX9_row_39 rfl (ltn rfl) rfl (by decide) rfl (by omega) ?_
        refine v_bipush (v := 6) dX9_row_40 (by decide) ?_
        refine v_icmp_eq (tgt := 48) dX9_row_42 (by decide) (fun h16 => ?_) (fun h16 => ?_)
        · -- I 67 P2 eq 6
          refine v_aload_n dX9_row_48 rfl 0 rfl ?_
          refine v_get (v := .ref (g.1 + 73)) fa_X9_38 dX9_row_49 rfl (by decide) (ltn rfl) rfl ?_
          refine v_iconst (v := 4) dX9_row_52 (by decide) ?_
          refine v_iload_n dX9_row_53 rfl 1 rfl ?_
          refine v_imul dX9_row_54 ?_
          refine v_is (nx_mul rfl rfl) ?_
          refine v_iload_n dX9_row_55 rfl 2 rfl ?_
          refine v_iadd dX9_row_56 ?_
          refine v_is (nx_add rfl rfl) ?_
          refine v_iaload (len := 24) (j := ((4 * P2) + P7)) dX9_row_57 rfl (ltn rfl) rfl (by decide) rfl (by omega) ?_
          refine v_istore (lv2 := [(4, .int (I 73 ((4 * P2) + P7))), (0, .ref (g.1 + 65)), (1, .int (nI P2)), (2, .int (nI P7)), (3, .int (nI P12))]) dX9_row_58 (by decide) rfl ?_
          refine v_aload_n dX9_row_60 rfl 1 rfl ?_
          refine v_get (v := .ref (g.1 + 73)) fa_X9_38 dX9_row_61 rfl (by decide) (ltn rfl) rfl ?_
          refine v_iconst (v := 4) dX9_row_64 (by decide) ?_
          refine v_iload_n dX9_row_65 rfl 2 rfl ?_
          refine v_imul dX9_row_66 ?_
          refine v_is (nx_mul rfl rfl) ?_
          refine v_iload_n dX9_row_67 rfl 3 rfl ?_
          refine v_iadd dX9_row_68 ?_
          refine v_is (nx_add rfl rfl) ?_
          refine v_iload_n dX9_row_69 rfl 4 rfl ?_
          refine v_iastore (len := 24) (j := ((4 * P2) + P7)) dX9_row_70 rfl (ltn rfl) rfl (by decide) rfl (by omega) ?_
          refine v_iload dX9_row_71 0 rfl ?_
          exact v_iret hr dX9_row_73 (psi (by first | rfl | (simp only [bq, ifc_T, ifc_F, inr_m1, and_true, true_and, and_false, false_and, or_true, true_or, or_false, false_or, not_true_eq_false, not_false_eq_true, and_self, or_self, h1, t4, u5, l3, h6, t9, u10, l8, h11, t14, u15, l13, h16]; done) | (simp [bq, ifc_T, ifc_F, inr_m1, h1, t4, u5, l3, h6, t9, u10, l8, h11, t14, u15, l13, h16]; done) | ((try simp only [bq]); repeat (first | rfl | (refine eq_t ?_ ?_; focus (first | omega | assumption | (simp [inr_m1, h1, t4, u5, l3, h6, t9, u10, l8, h11, t14, u15, l13, h16]; done) | (simp [inr_m1, h1, t4, u5, l3, h6, t9, u10, l8, h11, t14, u15, l13, h16]; omega) | (simp only [u5, u10, u15]; omega) | (clear hr; (try clear hkn); simp_all; done))) | (refine eq_f ?_ ?_; focus (first | omega | assumption | (simp [inr_m1, h1, t4, u5, l3, h6, t9, u10, l8, h11, t14, u15, l13, h16]; done) | (simp [inr_m1, h1, t4, u5, l3, h6, t9, u10, l8, h11, t14, u15, l13, h16]; omega) | (simp only [u5, u10, u15]; omega) | (clear hr; (try clear hkn); simp_all; done))) | (simp only [t4, t9, t14]; done) | (exfalso; clear hr; (try clear hkn); simp_all; done)))) (by first | rfl | (simp only [bq, ifc_T, ifc_F, inr_m1, and_true, true_and, and_false, false_and, or_true, true_or, or_false, false_or, not_true_eq_false, not_false_eq_true, and_self, or_self, h1, t4, u5, l3, h6, t9, u10, l8, h11, t14, u15, l13, h16]; done) | (simp [bq, ifc_T, ifc_F, inr_m1, h1, t4, u5, l3, h6, t9, u10, l8, h11, t14, u15, l13, h16]; done) | ((try simp only [bq]); repeat (first | rfl | (refine eq_t ?_ ?_; focus (first | omega | assumption | (simp [inr_m1, h1, t4, u5, l3, h6, t9, u10, l8, h11, t14, u15, l13, h16]; done) | (simp [inr_m1, h1, t4, u5, l3, h6, t9, u10, l8, h11, t14, u15, l13, h16]; omega) | (simp only [u5, u10, u15]; omega) | (clear hr; (try clear hkn); simp_all; done))) | (refine eq_f ?_ ?_; focus (first | omega | assumption | (simp [inr_m1, h1, t4, u5, l3, h6, t9, u10, l8, h11, t14, u15, l13, h16]; done) | (simp [inr_m1, h1, t4, u5, l3, h6, t9, u10, l8, h11, t14, u15, l13, h16]; omega) | (simp only [u5, u10, u15]; omega) | (clear hr; (try clear hkn); simp_all; done))) | (simp only [t4, t9, t14]; done) | (exfalso; clear hr; (try clear hkn); simp_all; done)))))
        · -- I 67 P2 ne 6
          refine v_bipush (v := (-3)) dX9_row_45 (by decide) ?_
          exact v_iret hr dX9_row_47 (psi (by first | rfl | (simp only [bq, ifc_T, ifc_F, inr_m1, and_true, true_and, and_false, false_and, or_true, true_or, or_false, false_or, not_true_eq_false, not_false_eq_true, and_self, or_self, h1, t4, u5, l3, h6, t9, u10, l8, h11, t14, u15, l13, h16]; done) | (simp [bq, ifc_T, ifc_F, inr_m1, h1, t4, u5, l3, h6, t9, u10, l8, h11, t14, u15, l13, h16]; done) | ((try simp only [bq]); repeat (first | rfl | (refine eq_t ?_ ?_; focus (first | omega | assumption | (simp [inr_m1, h1, t4, u5, l3, h6, t9, u10, l8, h11, t14, u15, l13, h16]; done) | (simp [inr_m1, h1, t4, u5, l3, h6, t9, u10, l8, h11, t14, u15, l13, h16]; omega) | (simp only [u5, u10, u15]; omega) | (clear hr; (try clear hkn); simp_all; done))) | (refine eq_f ?_ ?_; focus (first | omega | assumption | (simp [inr_m1, h1, t4, u5, l3, h6, t9, u10, l8, h11, t14, u15, l13, h16]; done) | (simp [inr_m1, h1, t4, u5, l3, h6, t9, u10, l8, h11, t14, u15, l13, h16]; omega) | (simp only [u5, u10, u15]; omega) | (clear hr; (try clear hkn); simp_all; done))) | (simp only [t4, t9, t14]; done) | (exfalso; clear hr; (try clear hkn); simp_all; done)))) (by first | rfl | (simp only [bq, ifc_T, ifc_F, inr_m1, and_true, true_and, and_false, false_and, or_true, true_or, or_false, false_or, not_true_eq_false, not_false_eq_true, and_self, or_self, h1, t4, u5, l3, h6, t9, u10, l8, h11, t14, u15, l13, h16]; done) | (simp [bq, ifc_T, ifc_F, inr_m1, h1, t4, u5, l3, h6, t9, u10, l8, h11, t14, u15, l13, h16]; done) | ((try simp only [bq]); repeat (first | rfl | (refine eq_t ?_ ?_; focus (first | omega | assumption | (simp [inr_m1, h1, t4, u5, l3, h6, t9, u10, l8, h11, t14, u15, l13, h16]; done) | (simp [inr_m1, h1, t4, u5, l3, h6, t9, u10, l8, h11, t14, u15, l13, h16]; omega) | (simp only [u5, u10, u15]; omega) | (clear hr; (try clear hkn); simp_all; done))) | (refine eq_f ?_ ?_; focus (first | omega | assumption | (simp [inr_m1, h1, t4, u5, l3, h6, t9, u10, l8, h11, t14, u15, l13, h16]; done) | (simp [inr_m1, h1, t4, u5, l3, h6, t9, u10, l8, h11, t14, u15, l13, h16]; omega) | (simp only [u5, u10, u15]; omega) | (clear hr; (try clear hkn); simp_all; done))) | (simp only [t4, t9, t14]; done) | (exfalso; clear hr; (try clear hkn); simp_all; done)))))
      · -- not inr n 10
        refine v_bipush (v := (-2)) dX9_row_31 (by decide) ?_
        exact v_iret hr dX9_row_33 (psi (by first | rfl | (simp only [bq, ifc_T, ifc_F, inr_m1, and_true, true_and, and_false, false_and, or_true, true_or, or_false, false_or, not_true_eq_false, not_false_eq_true, and_self, or_self, h1, t4, u5, l3, h6, t9, u10, l8, h11]; done) | (simp [bq, ifc_T, ifc_F, inr_m1, h1, t4, u5, l3, h6, t9, u10, l8, h11]; done) | ((try simp only [bq]); repeat (first | rfl | (refine eq_t ?_ ?_; focus (first | omega | assumption | (simp [inr_m1, h1, t4, u5, l3, h6, t9, u10, l8, h11]; done) | (simp [inr_m1, h1, t4, u5, l3, h6, t9, u10, l8, h11]; omega) | (simp only [u5, u10]; omega) | (clear hr; (try clear hkn); simp_all; done))) | (refine eq_f ?_ ?_; focus (first | omega | assumption | (simp [inr_m1, h1, t4, u5, l3, h6, t9, u10, l8, h11]; done) | (simp [inr_m1, h1, t4, u5, l3, h6, t9, u10, l8, h11]; omega) | (simp only [u5, u10]; omega) | (clear hr; (try clear hkn); simp_all; done))) | (simp only [t4, t9]; done) | (exfalso; clear hr; (try clear hkn); simp_all; done)))) (by first | rfl | (simp only [bq, ifc_T, ifc_F, inr_m1, and_true, true_and, and_false, false_and, or_true, true_or, or_false, false_or, not_true_eq_false, not_false_eq_true, and_self, or_self, h1, t4, u5, l3, h6, t9, u10, l8, h11]; done) | (simp [bq, ifc_T, ifc_F, inr_m1, h1, t4, u5, l3, h6, t9, u10, l8, h11]; done) | ((try simp only [bq]); repeat (first | rfl | (refine eq_t ?_ ?_; focus (first | omega | assumption | (simp [inr_m1, h1, t4, u5, l3, h6, t9, u10, l8, h11]; done) | (simp [inr_m1, h1, t4, u5, l3, h6, t9, u10, l8, h11]; omega) | (simp only [u5, u10]; omega) | (clear hr; (try clear hkn); simp_all; done))) | (refine eq_f ?_ ?_; focus (first | omega | assumption | (simp [inr_m1, h1, t4, u5, l3, h6, t9, u10, l8, h11]; done) | (simp [inr_m1, h1, t4, u5, l3, h6, t9, u10, l8, h11]; omega) | (simp only [u5, u10]; omega) | (clear hr; (try clear hkn); simp_all; done))) | (simp only [t4, t9]; done) | (exfalso; clear hr; (try clear hkn); simp_all; done)))))
    · -- not inr q 4
      refine v_iconst (v := (-1)) dX9_row_18 (by decide) ?_
      exact v_iret hr dX9_row_19 (psi (by first | rfl | (simp only [bq, ifc_T, ifc_F, inr_m1, and_true, true_and, and_false, false_and, or_true, true_or, or_false, false_or, not_true_eq_false, not_false_eq_true, and_self, or_self, h1, t4, u5, l3, h6]; done) | (simp [bq, ifc_T, ifc_F, inr_m1, h1, t4, u5, l3, h6]; done) | ((try simp only [bq]); repeat (first | rfl | (refine eq_t ?_ ?_; focus (first | omega | assumption | (simp [inr_m1, h1, t4, u5, l3, h6]; done) | (simp [inr_m1, h1, t4, u5, l3, h6]; omega) | (simp only [u5]; omega) | (clear hr; (try clear hkn); simp_all; done))) | (refine eq_f ?_ ?_; focus (first | omega | assumption | (simp [inr_m1, h1, t4, u5, l3, h6]; done) | (simp [inr_m1, h1, t4, u5, l3, h6]; omega) | (simp only [u5]; omega) | (clear hr; (try clear hkn); simp_all; done))) | (simp only [t4]; done) | (exfalso; clear hr; (try clear hkn); simp_all; done)))) (by first | rfl | (simp only [bq, ifc_T, ifc_F, inr_m1, and_true, true_and, and_false, false_and, or_true, true_or, or_false, false_or, not_true_eq_false, not_false_eq_true, and_self, or_self, h1, t4, u5, l3, h6]; done) | (simp [bq, ifc_T, ifc_F, inr_m1, h1, t4, u5, l3, h6]; done) | ((try simp only [bq]); repeat (first | rfl | (refine eq_t ?_ ?_; focus (first | omega | assumption | (simp [inr_m1, h1, t4, u5, l3, h6]; done) | (simp [inr_m1, h1, t4, u5, l3, h6]; omega) | (simp only [u5]; omega) | (clear hr; (try clear hkn); simp_all; done))) | (refine eq_f ?_ ?_; focus (first | omega | assumption | (simp [inr_m1, h1, t4, u5, l3, h6]; done) | (simp [inr_m1, h1, t4, u5, l3, h6]; omega) | (simp only [u5]; omega) | (clear hr; (try clear hkn); simp_all; done))) | (simp only [t4]; done) | (exfalso; clear hr; (try clear hkn); simp_all; done)))))
