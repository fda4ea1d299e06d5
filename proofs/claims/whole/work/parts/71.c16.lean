theorem inr_lo {x : Int32} {k : Nat} (h : x < 0) : ¬ inr x k := fun q => by
  have h1 := Int32.lt_iff_toInt_lt.mp h
  have h2 : (0 : Int32).toInt = 0 := by decide
  have h3 := q.1
  omega
theorem inr_hi {x : Int32} {k : Nat} (hk : k < 2 ^ 31) (h : nI k ≤ x) : ¬ inr x k := fun q => by
  have h1 := Int32.le_iff_toInt_le.mp h
  rw [nI_toInt hk] at h1
  have h3 := q.2
  omega
theorem inr_mk {x : Int32} {k : Nat} (hk : k < 2 ^ 31) (h0 : ¬ x < 0) (h : ¬ nI k ≤ x) : inr x k := by
  have h0 := Int32.le_iff_toInt_le.mp (Int32.not_lt.mp h0)
  have h1 := Int32.lt_iff_toInt_lt.mp (Int32.not_le.mp h)
  rw [nI_toInt hk] at h1
  have h2 : (0 : Int32).toInt = 0 := by decide
  exact ⟨by omega, by omega⟩
theorem inr_gt {x : Int32} {k : Nat} (hk : k + 1 < 2 ^ 31) (h : nI k < x) : ¬ inr x (k + 1) := fun q => by
  have h1 := Int32.lt_iff_toInt_lt.mp h
  rw [nI_toInt (by omega)] at h1
  have h3 := q.2
  omega
theorem inr_mk2 {x : Int32} {k : Nat} (hk : k + 1 < 2 ^ 31) (h0 : ¬ x < 0) (h : ¬ nI k < x) : inr x (k + 1) := by
  have h0 := Int32.le_iff_toInt_le.mp (Int32.not_lt.mp h0)
  have h1 := Int32.le_iff_toInt_le.mp (Int32.not_lt.mp h)
  rw [nI_toInt (by omega)] at h1
  have h2 : (0 : Int32).toInt = 0 := by decide
  exact ⟨by omega, by omega⟩
def scC (I : Ty) (kp : Ty) : Ty := fun a => if 32 ≤ a ∧ a ≤ 42 then kp a else I a
theorem scC_self (I : Ty) : I = scC I I := by
  funext a; unfold scC; split <;> rfl
theorem scC_32 (I : Ty) (f : Nat → Int32) : va_up I 32 f = scC I (va_up I 32 f) := by
  funext a; unfold scC
  split
  · rfl
  · next h => exact up_off _ _ (by omega)
theorem scC_scC (I kp kq : Ty) : scC (scC I kp) kq = scC I kq := by
  funext a; unfold scC; split <;> rfl
/-- a class's method ends: rows 32 to 42 and the trial's nation are nobody's business -/
abbrev PZ (na ni m : Nat) (nl : Nat → Nat) (v0 : Option Value) (I0 : Ty) (L0 : TL) : Post := fun v I L R N n => v = v0 ∧ (∃ kp, I = scC I0 kp) ∧ L = L0 ∧ (∃ nt', R = RT na nt' ni) ∧ N = NT nl ∧ n = NB + m
set_option maxRecDepth 100000 in
set_option maxHeartbeats 400000 in
theorem c_X8_isTraveller {g : Gl} {I : Ty} {L : TL} {na nt ni m : Nat} {nl : Nat → Nat} (nz : Int32) (pp : Nat) (hpp : pp ≤ 6) (hpe : I 23 1 = nI pp) : Ct g yX8_isTraveller cX8_isTraveller 2 (some .boolean) 0 0 0 [.ref (g.1 + 0), .int nz] I L (RT na nt ni) (NT nl) (NB + m) (Ps (some (.int (bq (inr nz pp)))) (I) L (RT na nt ni) (NT nl) (NB + m)) := by
  refine ct_of (by decide +kernel) (Nat.le_of_ble_eq_true rfl) (fun F hnm hr => ?_)
  clear hnm
  show V g F cX8_isTraveller RX8 2 0 0 [(0, .ref (g.1 + 0)), (1, .int nz)] [] I L (RT na nt ni) (NT nl) (NB + m) 0 0
  refine v_iload_n dX8_isTraveller_0 rfl 1 rfl ?_
  refine v_if_lt (tgt := 19) dX8_isTraveller_1 (by decide) (fun h1 => ?_) (fun h1 => ?_)
  · -- nz lt 0
    have r2 : ¬ inr nz pp := inr_lo h1
    -- not inr nz pp
    refine v_iconst (v := 0) dX8_isTraveller_19 (by decide) ?_
    exact v_zret hr dX8_isTraveller_20 (by first | rfl | exact nbq) (psi (bq_f r2).symm rfl)
  · -- nz ge 0
    refine v_iload_n dX8_isTraveller_4 rfl 1 rfl ?_
    refine v_aload_n dX8_isTraveller_5 rfl 0 rfl ?_
    refine v_get (v := .ref (g.1 + 23)) fa_X8_51 dX8_isTraveller_6 rfl (by decide) (ltn rfl) rfl ?_
    refine v_get (v := .int (I 23 1)) fa_X8_66 dX8_isTraveller_9 rfl (by decide) (ltn rfl) rfl ?_
    refine v_is hpe ?_
    refine v_icmp_ge (tgt := 19) dX8_isTraveller_12 (by decide) (fun h3 => ?_) (fun h3 => ?_)
    · -- nz ge nI pp
      have r4 : ¬ inr nz pp := inr_hi (by omega) h3
      -- not inr nz pp
      have h3n := Int32.not_lt.mpr h3
      refine v_iconst (v := 0) dX8_isTraveller_19 (by decide) ?_
      exact v_zret hr dX8_isTraveller_20 (by first | rfl | exact nbq) (psi (bq_f r4).symm rfl)
    · -- nz lt nI pp
      have r5 : inr nz pp := inr_mk (by omega) h1 h3
      -- inr nz pp
      have h3n := Int32.not_le.mp h3
      refine v_iconst (v := 1) dX8_isTraveller_15 (by decide) ?_
      refine v_goto (tgt := 20) dX8_isTraveller_16 (by decide) ?_
      exact v_zret hr dX8_isTraveller_20 (by first | rfl | exact nbq) (psi (bq_t r5).symm rfl)
set_option maxRecDepth 100000 in
set_option maxHeartbeats 400000 in
theorem c_X8_isCell {g : Gl} {I : Ty} {L : TL} {na nt ni m : Nat} {nl : Nat → Nat} (nz : Int32)  : Ct g yX8_isCell cX8_isCell 1 (some .boolean) 0 0 0 [.int nz] I L (RT na nt ni) (NT nl) (NB + m) (Ps (some (.int (bq (inr nz 16)))) (I) L (RT na nt ni) (NT nl) (NB + m)) := by
  refine ct_of (by decide +kernel) (Nat.le_of_ble_eq_true rfl) (fun F hnm hr => ?_)
  clear hnm
  show V g F cX8_isCell RX8 1 0 0 [(0, .int nz)] [] I L (RT na nt ni) (NT nl) (NB + m) 0 0
  refine v_iload_n dX8_isCell_0 rfl 0 rfl ?_
  refine v_if_lt (tgt := 14) dX8_isCell_1 (by decide) (fun h1 => ?_) (fun h1 => ?_)
  · -- nz lt 0
    have r2 : ¬ inr nz 16 := inr_lo h1
    -- not inr nz 16
    refine v_iconst (v := 0) dX8_isCell_14 (by decide) ?_
    exact v_zret hr dX8_isCell_15 (by first | rfl | exact nbq) (psi (bq_f r2).symm rfl)
  · -- nz ge 0
    refine v_iload_n dX8_isCell_4 rfl 0 rfl ?_
    refine v_bipush (v := 16) dX8_isCell_5 (by decide) ?_
    refine v_icmp_ge (tgt := 14) dX8_isCell_7 (by decide) (fun h3 => ?_) (fun h3 => ?_)
    · -- nz ge 16
      have r4 : ¬ inr nz 16 := inr_hi (by omega) h3
      -- not inr nz 16
      have h3n := Int32.not_lt.mpr h3
      refine v_iconst (v := 0) dX8_isCell_14 (by decide) ?_
      exact v_zret hr dX8_isCell_15 (by first | rfl | exact nbq) (psi (bq_f r4).symm rfl)
    · -- nz lt 16
      have r5 : inr nz 16 := inr_mk (by omega) h1 h3
      -- inr nz 16
      have h3n := Int32.not_le.mp h3
      refine v_iconst (v := 1) dX8_isCell_10 (by decide) ?_
      refine v_goto (tgt := 15) dX8_isCell_11 (by decide) ?_
      exact v_zret hr dX8_isCell_15 (by first | rfl | exact nbq) (psi (bq_t r5).symm rfl)
set_option maxRecDepth 100000 in
set_option maxHeartbeats 400000 in
theorem c_X8_isChart {g : Gl} {I : Ty} {L : TL} {na nt ni m : Nat} {nl : Nat → Nat} (nz : Int32)  : Ct g yX8_isChart cX8_isChart 1 (some .boolean) 0 0 0 [.int nz] I L (RT na nt ni) (NT nl) (NB + m) (Ps (some (.int (bq (inr nz 65536)))) (I) L (RT na nt ni) (NT nl) (NB + m)) := by
  refine ct_of (by decide +kernel) (Nat.le_of_ble_eq_true rfl) (fun F hnm hr => ?_)
  clear hnm
  show V g F cX8_isChart RX8 1 0 0 [(0, .int nz)] [] I L (RT na nt ni) (NT nl) (NB + m) 0 0
  refine v_iload_n dX8_isChart_0 rfl 0 rfl ?_
  refine v_if_lt (tgt := 15) dX8_isChart_1 (by decide) (fun h1 => ?_) (fun h1 => ?_)
  · -- nz lt 0
    have r2 : ¬ inr nz 65536 := inr_lo h1
    -- not inr nz 65536
    refine v_iconst (v := 0) dX8_isChart_15 (by decide) ?_
    exact v_zret hr dX8_isChart_16 (by first | rfl | exact nbq) (psi (bq_f r2).symm rfl)
  · -- nz ge 0
    refine v_iload_n dX8_isChart_4 rfl 0 rfl ?_
    refine v_ldcw dX8_isChart_5 uc_X8_300 ?_
    refine v_icmp_gt (tgt := 15) dX8_isChart_8 (by decide) (fun h3 => ?_) (fun h3 => ?_)
    · -- nz gt 65535
      have r4 : ¬ inr nz 65536 := inr_gt (k := 65535) (by omega) h3
      -- not inr nz 65536
      refine v_iconst (v := 0) dX8_isChart_15 (by decide) ?_
      exact v_zret hr dX8_isChart_16 (by first | rfl | exact nbq) (psi (bq_f r4).symm rfl)
    · -- nz le 65535
      have r5 : inr nz 65536 := inr_mk2 (k := 65535) (by omega) h1 h3
      -- inr nz 65536
      refine v_iconst (v := 1) dX8_isChart_11 (by decide) ?_
      refine v_goto (tgt := 16) dX8_isChart_12 (by decide) ?_
      exact v_zret hr dX8_isChart_16 (by first | rfl | exact nbq) (psi (bq_t r5).symm rfl)
set_option maxRecDepth 100000 in
set_option maxHeartbeats 400000 in
theorem c_X8_isHours {g : Gl} {I : Ty} {L : TL} {na nt ni m : Nat} {nl : Nat → Nat} (nz : Int32)  : Ct g yX8_isHours cX8_isHours 1 (some .boolean) 0 0 0 [.int nz] I L (RT na nt ni) (NT nl) (NB + m) (Ps (some (.int (bq (inr nz 41)))) (I) L (RT na nt ni) (NT nl) (NB + m)) := by
  refine ct_of (by decide +kernel) (Nat.le_of_ble_eq_true rfl) (fun F hnm hr => ?_)
  clear hnm
  show V g F cX8_isHours RX8 1 0 0 [(0, .int nz)] [] I L (RT na nt ni) (NT nl) (NB + m) 0 0
  refine v_iload_n dX8_isHours_0 rfl 0 rfl ?_
  refine v_if_lt (tgt := 14) dX8_isHours_1 (by decide) (fun h1 => ?_) (fun h1 => ?_)
  · -- nz lt 0
    have r2 : ¬ inr nz 41 := inr_lo h1
    -- not inr nz 41
    refine v_iconst (v := 0) dX8_isHours_14 (by decide) ?_
    exact v_zret hr dX8_isHours_15 (by first | rfl | exact nbq) (psi (bq_f r2).symm rfl)
  · -- nz ge 0
    refine v_iload_n dX8_isHours_4 rfl 0 rfl ?_
    refine v_bipush (v := 40) dX8_isHours_5 (by decide) ?_
    refine v_icmp_gt (tgt := 14) dX8_isHours_7 (by decide) (fun h3 => ?_) (fun h3 => ?_)
    · -- nz gt 40
      have r4 : ¬ inr nz 41 := inr_gt (k := 40) (by omega) h3
      -- not inr nz 41
      refine v_iconst (v := 0) dX8_isHours_14 (by decide) ?_
      exact v_zret hr dX8_isHours_15 (by first | rfl | exact nbq) (psi (bq_f r4).symm rfl)
    · -- nz le 40
      have r5 : inr nz 41 := inr_mk2 (k := 40) (by omega) h1 h3
      -- inr nz 41
      refine v_iconst (v := 1) dX8_isHours_10 (by decide) ?_
      refine v_goto (tgt := 15) dX8_isHours_11 (by decide) ?_
      exact v_zret hr dX8_isHours_15 (by first | rfl | exact nbq) (psi (bq_t r5).symm rfl)
set_option maxRecDepth 100000 in
set_option maxHeartbeats 400000 in
theorem c_X8_isTape {g : Gl} {I : Ty} {L : TL} {na nt ni m : Nat} {nl : Nat → Nat} (nz : Int32)  : Ct g yX8_isTape cX8_isTape 1 (some .boolean) 0 0 0 [.int nz] I L (RT na nt ni) (NT nl) (NB + m) (Ps (some (.int (bq (inr nz 6)))) (I) L (RT na nt ni) (NT nl) (NB + m)) := by
  refine ct_of (by decide +kernel) (Nat.le_of_ble_eq_true rfl) (fun F hnm hr => ?_)
  clear hnm
  show V g F cX8_isTape RX8 1 0 0 [(0, .int nz)] [] I L (RT na nt ni) (NT nl) (NB + m) 0 0
  refine v_iload_n dX8_isTape_0 rfl 0 rfl ?_
  refine v_if_lt (tgt := 14) dX8_isTape_1 (by decide) (fun h1 => ?_) (fun h1 => ?_)
  · -- nz lt 0
    have r2 : ¬ inr nz 6 := inr_lo h1
    -- not inr nz 6
    refine v_iconst (v := 0) dX8_isTape_14 (by decide) ?_
    exact v_zret hr dX8_isTape_15 (by first | rfl | exact nbq) (psi (bq_f r2).symm rfl)
  · -- nz ge 0
    refine v_iload_n dX8_isTape_4 rfl 0 rfl ?_
    refine v_bipush (v := 6) dX8_isTape_5 (by decide) ?_
    refine v_icmp_ge (tgt := 14) dX8_isTape_7 (by decide) (fun h3 => ?_) (fun h3 => ?_)
    · -- nz ge 6
      have r4 : ¬ inr nz 6 := inr_hi (by omega) h3
      -- not inr nz 6
      have h3n := Int32.not_lt.mpr h3
      refine v_iconst (v := 0) dX8_isTape_14 (by decide) ?_
      exact v_zret hr dX8_isTape_15 (by first | rfl | exact nbq) (psi (bq_f r4).symm rfl)
    · -- nz lt 6
      have r5 : inr nz 6 := inr_mk (by omega) h1 h3
      -- inr nz 6
      have h3n := Int32.not_le.mp h3
      refine v_iconst (v := 1) dX8_isTape_10 (by decide) ?_
      refine v_goto (tgt := 15) dX8_isTape_11 (by decide) ?_
      exact v_zret hr dX8_isTape_15 (by first | rfl | exact nbq) (psi (bq_t r5).symm rfl)
set_option maxRecDepth 100000 in
set_option maxHeartbeats 400000 in
theorem c_X8_orMissing {g : Gl} {I : Ty} {L : TL} {na nt ni m : Nat} {nl : Nat → Nat} (nz : Int32)  : Ct g yX8_orMissing cX8_orMissing 1 (some .int) 0 0 0 [.int nz] I L (RT na nt ni) (NT nl) (NB + m) (Ps (some (.int (ifc (nz < 0) (-5) nz))) (I) L (RT na nt ni) (NT nl) (NB + m)) := by
  refine ct_of (by decide +kernel) (Nat.le_of_ble_eq_true rfl) (fun F hnm hr => ?_)
  clear hnm
  show V g F cX8_orMissing RX8 1 0 0 [(0, .int nz)] [] I L (RT na nt ni) (NT nl) (NB + m) 0 0
  refine v_iload_n dX8_orMissing_0 rfl 0 rfl ?_
  refine v_if_ge (tgt := 9) dX8_orMissing_1 (by decide) (fun h1 => ?_) (fun h1 => ?_)
  · -- nz ge 0
    have h1n := Int32.not_lt.mpr h1
    refine v_iload_n dX8_orMissing_9 rfl 0 rfl ?_
    exact v_iret hr dX8_orMissing_10 (psi (by first | rfl | (simp only [bq, ifc_T, ifc_F, inr_m1, and_true, true_and, and_false, false_and, or_true, true_or, or_false, false_or, not_true_eq_false, not_false_eq_true, and_self, or_self, h1, h1n]; done) | (simp [bq, ifc_T, ifc_F, inr_m1, h1, h1n]; done) | ((try simp only [bq]); repeat (first | rfl | (refine eq_t ?_ ?_; focus (first | omega | assumption | (simp [inr_m1, h1, h1n]; done) | (simp [inr_m1, h1, h1n]; omega) | (clear hr; (try clear hkn); simp_all; done))) | (refine eq_f ?_ ?_; focus (first | omega | assumption | (simp [inr_m1, h1, h1n]; done) | (simp [inr_m1, h1, h1n]; omega) | (clear hr; (try clear hkn); simp_all; done))) | (exfalso; clear hr; (try clear hkn); simp_all; done)))) rfl)
  · -- nz lt 0
    have h1n := Int32.not_le.mp h1
    refine v_bipush (v := (-5)) dX8_orMissing_4 (by decide) ?_
    refine v_goto (tgt := 10) dX8_orMissing_6 (by decide) ?_
    exact v_iret hr dX8_orMissing_10 (psi (by first | rfl | (simp only [bq, ifc_T, ifc_F, inr_m1, and_true, true_and, and_false, false_and, or_true, true_or, or_false, false_or, not_true_eq_false, not_false_eq_true, and_self, or_self, h1, h1n]; done) | (simp [bq, ifc_T, ifc_F, inr_m1, h1, h1n]; done) | ((try simp only [bq]); repeat (first | rfl | (refine eq_t ?_ ?_; focus (first | omega | assumption | (simp [inr_m1, h1, h1n]; done) | (simp [inr_m1, h1, h1n]; omega) | (clear hr; (try clear hkn); simp_all; done))) | (refine eq_f ?_ ?_; focus (first | omega | assumption | (simp [inr_m1, h1, h1n]; done) | (simp [inr_m1, h1, h1n]; omega) | (clear hr; (try clear hkn); simp_all; done))) | (exfalso; clear hr; (try clear hkn); simp_all; done)))) rfl)
set_option maxRecDepth 100000 in
set_option maxHeartbeats 400000 in
theorem c_X8_traveller {g : Gl} {I : Ty} {L : TL} {na nt ni m : Nat} {nl : Nat → Nat} (kz : Int32) (vz : Int32) (cz : Int32) (pp : Nat) (hpp : pp ≤ 6) (hpe : I 23 1 = nI pp) : Ct g yX8_traveller cX8_traveller 4 (some .int) 1 0 0 [.ref (g.1 + 0), .int kz, .int vz, .int cz] I L (RT na nt ni) (NT nl) (NB + m) (PZ na ni m nl (some (.int (ifc (inr kz 7 ∧ inr cz 16) (ifc (inr vz 10) (ifc (pp = 6) (-4) (nI pp)) (-2)) (-1)))) (ifc (inr kz 7 ∧ inr cz 16 ∧ inr vz 10 ∧ pp ≠ 6) (cTrav I pp kz vz cz) I) L) := by
  refine ct_of (by decide +kernel) (Nat.le_of_ble_eq_true rfl) (fun F hnm hr => ?_)
  clear hnm
  show V g F cX8_traveller RX8 4 1 0 [(0, .ref (g.1 + 0)), (1, .int kz), (2, .int vz), (3, .int cz)] [] I L (RT na nt ni) (NT nl) (NB + m) 0 0
  refine v_iload_n dX8_traveller_0 rfl 1 rfl ?_
  refine v_if_lt (tgt := 17) dX8_traveller_1 (by decide) (fun h1 => ?_) (fun h1 => ?_)
  · -- kz lt 0
    have r2 : ¬ inr kz 7 := inr_lo h1
    -- not inr kz 7
    refine v_iconst (v := (-1)) dX8_traveller_17 (by decide) ?_
    exact v_iret hr dX8_traveller_18 (⟨congrArg (fun z => some (Value.int z)) (by first | rfl | (simp only [bq, ifc_T, ifc_F, inr_m1, and_true, true_and, and_false, false_and, or_true, true_or, or_false, false_or, not_true_eq_false, not_false_eq_true, and_self, or_self, h1, r2]; done) | (simp [bq, ifc_T, ifc_F, inr_m1, h1, r2]; done) | ((try simp only [bq]); repeat (first | rfl | (refine eq_t ?_ ?_; focus (first | omega | assumption | (simp [inr_m1, h1, r2]; done) | (simp [inr_m1, h1, r2]; omega) | (clear hr; (try clear hkn); simp_all; done))) | (refine eq_f ?_ ?_; focus (first | omega | assumption | (simp [inr_m1, h1, r2]; done) | (simp [inr_m1, h1, r2]; omega) | (clear hr; (try clear hkn); simp_all; done))) | (exfalso; clear hr; (try clear hkn); simp_all; done)))), ⟨_, (show I = _ from (by first | rfl | (simp only [bq, ifc_T, ifc_F, inr_m1, and_true, true_and, and_false, false_and, or_true, true_or, or_false, false_or, not_true_eq_false, not_false_eq_true, and_self, or_self, h1, r2]; done) | (simp [bq, ifc_T, ifc_F, inr_m1, h1, r2]; done) | ((try simp only [bq]); repeat (first | rfl | (refine eq_t ?_ ?_; focus (first | omega | assumption | (simp [inr_m1, h1, r2]; done) | (simp [inr_m1, h1, r2]; omega) | (clear hr; (try clear hkn); simp_all; done))) | (refine eq_f ?_ ?_; focus (first | omega | assumption | (simp [inr_m1, h1, r2]; done) | (simp [inr_m1, h1, r2]; omega) | (clear hr; (try clear hkn); simp_all; done))) | (exfalso; clear hr; (try clear hkn); simp_all; done))))).trans (scC_self _)⟩, rfl, ⟨_, rfl⟩, rfl, rfl⟩)
  · -- kz ge 0
    refine v_iload_n dX8_traveller_4 rfl 1 rfl ?_
    refine v_bipush (v := 7) dX8_traveller_5 (by decide) ?_
    refine v_icmp_ge (tgt := 17) dX8_traveller_7 (by decide) (fun h3 => ?_) (fun h3 => ?_)
    · -- kz ge 7
      have r4 : ¬ inr kz 7 := inr_hi (by omega) h3
      -- not inr kz 7
      have h3n := Int32.not_lt.mpr h3
      refine v_iconst (v := (-1)) dX8_traveller_17 (by decide) ?_
      exact v_iret hr dX8_traveller_18 (⟨congrArg (fun z => some (Value.int z)) (by first | rfl | (simp only [bq, ifc_T, ifc_F, inr_m1, and_true, true_and, and_false, false_and, or_true, true_or, or_false, false_or, not_true_eq_false, not_false_eq_true, and_self, or_self, h1, h3, r4, h3n]; done) | (simp [bq, ifc_T, ifc_F, inr_m1, h1, h3, r4, h3n]; done) | ((try simp only [bq]); repeat (first | rfl | (refine eq_t ?_ ?_; focus (first | omega | assumption | (simp [inr_m1, h1, h3, r4, h3n]; done) | (simp [inr_m1, h1, h3, r4, h3n]; omega) | (clear hr; (try clear hkn); simp_all; done))) | (refine eq_f ?_ ?_; focus (first | omega | assumption | (simp [inr_m1, h1, h3, r4, h3n]; done) | (simp [inr_m1, h1, h3, r4, h3n]; omega) | (clear hr; (try clear hkn); simp_all; done))) | (exfalso; clear hr; (try clear hkn); simp_all; done)))), ⟨_, (show I = _ from (by first | rfl | (simp only [bq, ifc_T, ifc_F, inr_m1, and_true, true_and, and_false, false_and, or_true, true_or, or_false, false_or, not_true_eq_false, not_false_eq_true, and_self, or_self, h1, h3, r4, h3n]; done) | (simp [bq, ifc_T, ifc_F, inr_m1, h1, h3, r4, h3n]; done) | ((try simp only [bq]); repeat (first | rfl | (refine eq_t ?_ ?_; focus (first | omega | assumption | (simp [inr_m1, h1, h3, r4, h3n]; done) | (simp [inr_m1, h1, h3, r4, h3n]; omega) | (clear hr; (try clear hkn); simp_all; done))) | (refine eq_f ?_ ?_; focus (first | omega | assumption | (simp [inr_m1, h1, h3, r4, h3n]; done) | (simp [inr_m1, h1, h3, r4, h3n]; omega) | (clear hr; (try clear hkn); simp_all; done))) | (exfalso; clear hr; (try clear hkn); simp_all; done))))).trans (scC_self _)⟩, rfl, ⟨_, rfl⟩, rfl, rfl⟩)
    · -- kz lt 7
      have r5 : inr kz 7 := inr_mk (by omega) h1 h3
      -- inr kz 7
      obtain ⟨P6, rfl, l7, t8, u9⟩ := inr_ex r5 (by omega)
      have h3n := Int32.not_le.mp h3
      refine v_iload_n dX8_traveller_10 rfl 3 rfl ?_
      refine v_callSi (As := [.int cz]) (rest := []) lk_X8_62 (c_X8_isCell cz) dX8_traveller_11 rfl rfl (Nat.le_of_ble_eq_true rfl) (by decide) ?_
      refine v_ifb_ne (tgt := 19) dX8_traveller_14 (by decide) (fun h10 => ?_) (fun h10 => ?_)
      · -- inr cz 16
        obtain ⟨P11, rfl, l12, t13, u14⟩ := inr_ex h10 (by omega)
        refine v_iload_n dX8_traveller_19 rfl 2 rfl ?_
        refine v_if_lt (tgt := 29) dX8_traveller_20 (by decide) (fun h15 => ?_) (fun h15 => ?_)
        · -- vz lt 0
          have r16 : ¬ inr vz 10 := inr_lo h15
          -- not inr vz 10
          refine v_bipush (v := (-2)) dX8_traveller_29 (by decide) ?_
          exact v_iret hr dX8_traveller_31 (⟨congrArg (fun z => some (Value.int z)) (by first | rfl | (simp only [bq, ifc_T, ifc_F, inr_m1, and_true, true_and, and_false, false_and, or_true, true_or, or_false, false_or, not_true_eq_false, not_false_eq_true, and_self, or_self, h1, h3, r5, t8, u9, l7, h3n, h10, t13, u14, l12, h15, r16]; done) | (simp [bq, ifc_T, ifc_F, inr_m1, h1, h3, r5, t8, u9, l7, h3n, h10, t13, u14, l12, h15, r16]; done) | ((try simp only [bq]); repeat (first | rfl | (refine eq_t ?_ ?_; focus (first | omega | assumption | (simp [inr_m1, h1, h3, r5, t8, u9, l7, h3n, h10, t13, u14, l12, h15, r16]; done) | (simp [inr_m1, h1, h3, r5, t8, u9, l7, h3n, h10, t13, u14, l12, h15, r16]; omega) | (simp only [u9, u14]; omega) | (clear hr; (try clear hkn); simp_all; done))) | (refine eq_f ?_ ?_; focus (first | omega | assumption | (simp [inr_m1, h1, h3, r5, t8, u9, l7, h3n, h10, t13, u14, l12, h15, r16]; done) | (simp [inr_m1, h1, h3, r5, t8, u9, l7, h3n, h10, t13, u14, l12, h15, r16]; omega) | (simp only [u9, u14]; omega) | (clear hr; (try clear hkn); simp_all; done))) | (simp only [t8, t13]; done) | (exfalso; clear hr; (try clear hkn); simp_all; done)))), ⟨_, (show I = _ from (by first | rfl | (simp only [bq, ifc_T, ifc_F, inr_m1, and_true, true_and, and_false, false_and, or_true, true_or, or_false, false_or, not_true_eq_false, not_false_eq_true, and_self, or_self, h1, h3, r5, t8, u9, l7, h3n, h10, t13, u14, l12, h15, r16]; done) | (simp [bq, ifc_T, ifc_F, inr_m1, h1, h3, r5, t8, u9, l7, h3n, h10, t13, u14, l12, h15, r16]; done) | ((try simp only [bq]); repeat (first | rfl | (refine eq_t ?_ ?_; focus (first | omega | assumption | (simp [inr_m1, h1, h3, r5, t8, u9, l7, h3n, h10, t13, u14, l12, h15, r16]; done) | (simp [inr_m1, h1, h3, r5, t8, u9, l7, h3n, h10, t13, u14, l12, h15, r16]; omega) | (simp only [u9, u14]; omega) | (clear hr; (try clear hkn); simp_all; done))) | (refine eq_f ?_ ?_; focus (first | omega | assumption | (simp [inr_m1, h1, h3, r5, t8, u9, l7, h3n, h10, t13, u14, l12, h15, r16]; done) | (simp [inr_m1, h1, h3, r5, t8, u9, l7, h3n, h10, t13, u14, l12, h15, r16]; omega) | (simp only [u9, u14]; omega) | (clear hr; (try clear hkn); simp_all; done))) | (simp only [t8, t13]; done) | (exfalso; clear hr; (try clear hkn); simp_all; done))))).trans (scC_self _)⟩, rfl, ⟨_, rfl⟩, rfl, rfl⟩)
        · -- vz ge 0
          refine v_iload_n dX8_traveller_23 rfl 2 rfl ?_
          refine v_bipush (v := 10) dX8_traveller_24 (by decide) ?_
          refine v_icmp_lt (tgt := 32) dX8_traveller_26 (by decide) (fun h17 => ?_) (fun h17 => ?_)
          · -- vz lt 10
            have r18 : inr vz 10 := inr_mk (by omega) h15 (Int32.not_le.mpr h17)
            -- inr vz 10
            obtain ⟨P19, rfl, l20, t21, u22⟩ := inr_ex r18 (by omega)
            refine v_aload_n dX8_traveller_32 rfl 0 rfl ?_
            refine v_get (v := .ref (g.1 + 23)) fa_X8_51 dX8_traveller_33 rfl (by decide) (ltn rfl) rfl ?_
            refine v_get (v := .int (I 23 1)) fa_X8_66 dX8_traveller_36 rfl (by decide) (ltn rfl) rfl ?_
            refine v_is hpe ?_
            refine v_bipush (v := 6) dX8_traveller_39 (by decide) ?_
            refine v_icmp_ltN (a := pp) (b := 6) (tgt := 47) dX8_traveller_41 (by decide) rfl rfl (by omega) (by omega) (fun h23 => ?_) (fun h23 => ?_)
            · -- pp lt 6
              refine v_aload_n dX8_traveller_47 rfl 0 rfl ?_
              refine v_get (v := .ref (g.1 + 23)) fa_X8_51 dX8_traveller_48 rfl (by decide) (ltn rfl) rfl ?_
              refine v_iload_n dX8_traveller_51 rfl 1 rfl ?_
              refine v_iload_n dX8_traveller_52 rfl 2 rfl ?_
              refine v_iload_n dX8_traveller_53 rfl 3 rfl ?_
              refine v_callVi (As := [.int (nI P6), .int (nI P19), .int (nI P11)]) (rest := []) lk_X8_70 (c_X2_welcomeNew (nI P6) (nI P19) (nI P11) pp (by omega) hpe) dX8_traveller_54 rfl (ltn rfl) rfl rfl (Nat.le_of_ble_eq_true rfl) (by decide) ?_
              exact v_iret hr dX8_traveller_57 (⟨congrArg (fun z => some (Value.int z)) (by first | rfl | (simp only [bq, ifc_T, ifc_F, inr_m1, and_true, true_and, and_false, false_and, or_true, true_or, or_false, false_or, not_true_eq_false, not_false_eq_true, and_self, or_self, h1, h3, r5, t8, u9, l7, h3n, h10, t13, u14, l12, h15, h17, r18, t21, u22, l20, h23]; done) | (simp [bq, ifc_T, ifc_F, inr_m1, h1, h3, r5, t8, u9, l7, h3n, h10, t13, u14, l12, h15, h17, r18, t21, u22, l20, h23]; done) | ((try simp only [bq]); repeat (first | rfl | (refine eq_t ?_ ?_; focus (first | omega | assumption | (simp [inr_m1, h1, h3, r5, t8, u9, l7, h3n, h10, t13, u14, l12, h15, h17, r18, t21, u22, l20, h23]; done) | (simp [inr_m1, h1, h3, r5, t8, u9, l7, h3n, h10, t13, u14, l12, h15, h17, r18, t21, u22, l20, h23]; omega) | (simp only [u9, u14, u22]; omega) | (clear hr; (try clear hkn); simp_all; done))) | (refine eq_f ?_ ?_; focus (first | omega | assumption | (simp [inr_m1, h1, h3, r5, t8, u9, l7, h3n, h10, t13, u14, l12, h15, h17, r18, t21, u22, l20, h23]; done) | (simp [inr_m1, h1, h3, r5, t8, u9, l7, h3n, h10, t13, u14, l12, h15, h17, r18, t21, u22, l20, h23]; omega) | (simp only [u9, u14, u22]; omega) | (clear hr; (try clear hkn); simp_all; done))) | (simp only [t8, t13, t21]; done) | (exfalso; clear hr; (try clear hkn); simp_all; done)))), ⟨_, (show (cTrav I pp (nI P6) (nI P19) (nI P11)) = _ from (by first | rfl | (simp only [bq, ifc_T, ifc_F, inr_m1, and_true, true_and, and_false, false_and, or_true, true_or, or_false, false_or, not_true_eq_false, not_false_eq_true, and_self, or_self, h1, h3, r5, t8, u9, l7, h3n, h10, t13, u14, l12, h15, h17, r18, t21, u22, l20, h23]; done) | (simp [bq, ifc_T, ifc_F, inr_m1, h1, h3, r5, t8, u9, l7, h3n, h10, t13, u14, l12, h15, h17, r18, t21, u22, l20, h23]; done) | ((try simp only [bq]); repeat (first | rfl | (refine eq_t ?_ ?_; focus (first | omega | assumption | (simp [inr_m1, h1, h3, r5, t8, u9, l7, h3n, h10, t13, u14, l12, h15, h17, r18, t21, u22, l20, h23]; done) | (simp [inr_m1, h1, h3, r5, t8, u9, l7, h3n, h10, t13, u14, l12, h15, h17, r18, t21, u22, l20, h23]; omega) | (simp only [u9, u14, u22]; omega) | (clear hr; (try clear hkn); simp_all; done))) | (refine eq_f ?_ ?_; focus (first | omega | assumption | (simp [inr_m1, h1, h3, r5, t8, u9, l7, h3n, h10, t13, u14, l12, h15, h17, r18, t21, u22, l20, h23]; done) | (simp [inr_m1, h1, h3, r5, t8, u9, l7, h3n, h10, t13, u14, l12, h15, h17, r18, t21, u22, l20, h23]; omega) | (simp only [u9, u14, u22]; omega) | (clear hr; (try clear hkn); simp_all; done))) | (simp only [t8, t13, t21]; done) | (exfalso; clear hr; (try clear hkn); simp_all; done))))).trans (scC_self _)⟩, rfl, ⟨_, rfl⟩, rfl, rfl⟩)
            · -- pp ge 6
              refine v_bipush (v := (-4)) dX8_traveller_44 (by decide) ?_
              exact v_iret hr dX8_traveller_46 (⟨congrArg (fun z => some (Value.int z)) (by first | rfl | (simp only [bq, ifc_T, ifc_F, inr_m1, and_true, true_and, and_false, false_and, or_true, true_or, or_false, false_or, not_true_eq_false, not_false_eq_true, and_self, or_self, h1, h3, r5, t8, u9, l7, h3n, h10, t13, u14, l12, h15, h17, r18, t21, u22, l20, h23]; done) | (simp [bq, ifc_T, ifc_F, inr_m1, h1, h3, r5, t8, u9, l7, h3n, h10, t13, u14, l12, h15, h17, r18, t21, u22, l20, h23]; done) | ((try simp only [bq]); repeat (first | rfl | (refine eq_t ?_ ?_; focus (first | omega | assumption | (simp [inr_m1, h1, h3, r5, t8, u9, l7, h3n, h10, t13, u14, l12, h15, h17, r18, t21, u22, l20, h23]; done) | (simp [inr_m1, h1, h3, r5, t8, u9, l7, h3n, h10, t13, u14, l12, h15, h17, r18, t21, u22, l20, h23]; omega) | (simp only [u9, u14, u22]; omega) | (clear hr; (try clear hkn); simp_all; done))) | (refine eq_f ?_ ?_; focus (first | omega | assumption | (simp [inr_m1, h1, h3, r5, t8, u9, l7, h3n, h10, t13, u14, l12, h15, h17, r18, t21, u22, l20, h23]; done) | (simp [inr_m1, h1, h3, r5, t8, u9, l7, h3n, h10, t13, u14, l12, h15, h17, r18, t21, u22, l20, h23]; omega) | (simp only [u9, u14, u22]; omega) | (clear hr; (try clear hkn); simp_all; done))) | (simp only [t8, t13, t21]; done) | (exfalso; clear hr; (try clear hkn); simp_all; done)))), ⟨_, (show I = _ from (by first | rfl | (simp only [bq, ifc_T, ifc_F, inr_m1, and_true, true_and, and_false, false_and, or_true, true_or, or_false, false_or, not_true_eq_false, not_false_eq_true, and_self, or_self, h1, h3, r5, t8, u9, l7, h3n, h10, t13, u14, l12, h15, h17, r18, t21, u22, l20, h23]; done) | (simp [bq, ifc_T, ifc_F, inr_m1, h1, h3, r5, t8, u9, l7, h3n, h10, t13, u14, l12, h15, h17, r18, t21, u22, l20, h23]; done) | ((try simp only [bq]); repeat (first | rfl | (refine eq_t ?_ ?_; focus (first | omega | assumption | (simp [inr_m1, h1, h3, r5, t8, u9, l7, h3n, h10, t13, u14, l12, h15, h17, r18, t21, u22, l20, h23]; done) | (simp [inr_m1, h1, h3, r5, t8, u9, l7, h3n, h10, t13, u14, l12, h15, h17, r18, t21, u22, l20, h23]; omega) | (simp only [u9, u14, u22]; omega) | (clear hr; (try clear hkn); simp_all; done))) | (refine eq_f ?_ ?_; focus (first | omega | assumption | (simp [inr_m1, h1, h3, r5, t8, u9, l7, h3n, h10, t13, u14, l12, h15, h17, r18, t21, u22, l20, h23]; done) | (simp [inr_m1, h1, h3, r5, t8, u9, l7, h3n, h10, t13, u14, l12, h15, h17, r18, t21, u22, l20, h23]; omega) | (simp only [u9, u14, u22]; omega) | (clear hr; (try clear hkn); simp_all; done))) | (simp only [t8, t13, t21]; done) | (exfalso; clear hr; (try clear hkn); simp_all; done))))).trans (scC_self _)⟩, rfl, ⟨_, rfl⟩, rfl, rfl⟩)
          · -- vz ge 10
            have r24 : ¬ inr vz 10 := inr_hi (by omega) (Int32.not_lt.mp h17)
            -- not inr vz 10
            refine v_bipush (v := (-2)) dX8_traveller_29 (by decide) ?_
            exact v_iret hr dX8_traveller_31 (⟨congrArg (fun z => some (Value.int z)) (by first | rfl | (simp only [bq, ifc_T, ifc_F, inr_m1, and_true, true_and, and_false, false_and, or_true, true_or, or_false, false_or, not_true_eq_false, not_false_eq_true, and_self, or_self, h1, h3, r5, t8, u9, l7, h3n, h10, t13, u14, l12, h15, h17, r24]; done) | (simp [bq, ifc_T, ifc_F, inr_m1, h1, h3, r5, t8, u9, l7, h3n, h10, t13, u14, l12, h15, h17, r24]; done) | ((try simp only [bq]); repeat (first | rfl | (refine eq_t ?_ ?_; focus (first | omega | assumption | (simp [inr_m1, h1, h3, r5, t8, u9, l7, h3n, h10, t13, u14, l12, h15, h17, r24]; done) | (simp [inr_m1, h1, h3, r5, t8, u9, l7, h3n, h10, t13, u14, l12, h15, h17, r24]; omega) | (simp only [u9, u14]; omega) | (clear hr; (try clear hkn); simp_all; done))) | (refine eq_f ?_ ?_; focus (first | omega | assumption | (simp [inr_m1, h1, h3, r5, t8, u9, l7, h3n, h10, t13, u14, l12, h15, h17, r24]; done) | (simp [inr_m1, h1, h3, r5, t8, u9, l7, h3n, h10, t13, u14, l12, h15, h17, r24]; omega) | (simp only [u9, u14]; omega) | (clear hr; (try clear hkn); simp_all; done))) | (simp only [t8, t13]; done) | (exfalso; clear hr; (try clear hkn); simp_all; done)))), ⟨_, (show I = _ from (by first | rfl | (simp only [bq, ifc_T, ifc_F, inr_m1, and_true, true_and, and_false, false_and, or_true, true_or, or_false, false_or, not_true_eq_false, not_false_eq_true, and_self, or_self, h1, h3, r5, t8, u9, l7, h3n, h10, t13, u14, l12, h15, h17, r24]; done) | (simp [bq, ifc_T, ifc_F, inr_m1, h1, h3, r5, t8, u9, l7, h3n, h10, t13, u14, l12, h15, h17, r24]; done) | ((try simp only [bq]); repeat (first | rfl | (refine eq_t ?_ ?_; focus (first | omega | assumption | (simp [inr_m1, h1, h3, r5, t8, u9, l7, h3n, h10, t13, u14, l12, h15, h17, r24]; done) | (simp [inr_m1, h1, h3, r5, t8, u9, l7, h3n, h10, t13, u14, l12, h15, h17, r24]; omega) | (simp only [u9, u14]; omega) | (clear hr; (try clear hkn); simp_all; done))) | (refine eq_f ?_ ?_; focus (first | omega | assumption | (simp [inr_m1, h1, h3, r5, t8, u9, l7, h3n, h10, t13, u14, l12, h15, h17, r24]; done) | (simp [inr_m1, h1, h3, r5, t8, u9, l7, h3n, h10, t13, u14, l12, h15, h17, r24]; omega) | (simp only [u9, u14]; omega) | (clear hr; (try clear hkn); simp_all; done))) | (simp only [t8, t13]; done) | (exfalso; clear hr; (try clear hkn); simp_all; done))))).trans (scC_self _)⟩, rfl, ⟨_, rfl⟩, rfl, rfl⟩)
      · -- not inr cz 16
        refine v_iconst (v := (-1)) dX8_traveller_17 (by decide) ?_
        exact v_iret hr dX8_traveller_18 (⟨congrArg (fun z => some (Value.int z)) (by first | rfl | (simp only [bq, ifc_T, ifc_F, inr_m1, and_true, true_and, and_false, false_and, or_true, true_or, or_false, false_or, not_true_eq_false, not_false_eq_true, and_self, or_self, h1, h3, r5, t8, u9, l7, h3n, h10]; done) | (simp [bq, ifc_T, ifc_F, inr_m1, h1, h3, r5, t8, u9, l7, h3n, h10]; done) | ((try simp only [bq]); repeat (first | rfl | (refine eq_t ?_ ?_; focus (first | omega | assumption | (simp [inr_m1, h1, h3, r5, t8, u9, l7, h3n, h10]; done) | (simp [inr_m1, h1, h3, r5, t8, u9, l7, h3n, h10]; omega) | (simp only [u9]; omega) | (clear hr; (try clear hkn); simp_all; done))) | (refine eq_f ?_ ?_; focus (first | omega | assumption | (simp [inr_m1, h1, h3, r5, t8, u9, l7, h3n, h10]; done) | (simp [inr_m1, h1, h3, r5, t8, u9, l7, h3n, h10]; omega) | (simp only [u9]; omega) | (clear hr; (try clear hkn); simp_all; done))) | (simp only [t8]; done) | (exfalso; clear hr; (try clear hkn); simp_all; done)))), ⟨_, (show I = _ from (by first | rfl | (simp only [bq, ifc_T, ifc_F, inr_m1, and_true, true_and, and_false, false_and, or_true, true_or, or_false, false_or, not_true_eq_false, not_false_eq_true, and_self, or_self, h1, h3, r5, t8, u9, l7, h3n, h10]; done) | (simp [bq, ifc_T, ifc_F, inr_m1, h1, h3, r5, t8, u9, l7, h3n, h10]; done) | ((try simp only [bq]); repeat (first | rfl | (refine eq_t ?_ ?_; focus (first | omega | assumption | (simp [inr_m1, h1, h3, r5, t8, u9, l7, h3n, h10]; done) | (simp [inr_m1, h1, h3, r5, t8, u9, l7, h3n, h10]; omega) | (simp only [u9]; omega) | (clear hr; (try clear hkn); simp_all; done))) | (refine eq_f ?_ ?_; focus (first | omega | assumption | (simp [inr_m1, h1, h3, r5, t8, u9, l7, h3n, h10]; done) | (simp [inr_m1, h1, h3, r5, t8, u9, l7, h3n, h10]; omega) | (simp only [u9]; omega) | (clear hr; (try clear hkn); simp_all; done))) | (simp only [t8]; done) | (exfalso; clear hr; (try clear hkn); simp_all; done))))).trans (scC_self _)⟩, rfl, ⟨_, rfl⟩, rfl, rfl⟩)
set_option maxRecDepth 100000 in
set_option maxHeartbeats 400000 in
theorem c_X8_goal {g : Gl} {I : Ty} {L : TL} {na nt ni m : Nat} {nl : Nat → Nat} (pz : Int32) (cz : Int32) (pp : Nat) (hpp : pp ≤ 6) (hpe : I 23 1 = nI pp) : Ct g yX8_goal cX8_goal 4 (some .int) 1 0 0 [.ref (g.1 + 0), .int pz, .int cz] I L (RT na nt ni) (NT nl) (NB + m) (PZ na ni m nl (some (.int (ifc (inr pz pp ∧ (cz = -1 ∨ inr cz 16)) (ifc (I 28 (tn pz) < 0) (-5) (I 28 (tn pz))) (-1)))) (ifc (inr pz pp ∧ (cz = -1 ∨ inr cz 16)) (wr I 28 (tn pz) cz) I) L) := by
  refine ct_of (by decide +kernel) (Nat.le_of_ble_eq_true rfl) (fun F hnm hr => ?_)
  clear hnm
  show V g F cX8_goal RX8 4 1 0 [(0, .ref (g.1 + 0)), (1, .int pz), (2, .int cz)] [] I L (RT na nt ni) (NT nl) (NB + m) 0 0
  refine v_aload_n dX8_goal_0 rfl 0 rfl ?_
  refine v_iload_n dX8_goal_1 rfl 1 rfl ?_
  refine v_callVi (As := [.int pz]) (rest := []) lk_X8_74 (c_X8_isTraveller pz pp hpp hpe) dX8_goal_2 rfl (ltn rfl) rfl rfl (Nat.le_of_ble_eq_true rfl) (by decide) ?_
  refine v_ifb_eq (tgt := 20) dX8_goal_5 (by decide) (fun h1 => ?_) (fun h1 => ?_)
  · -- not inr pz pp
    refine v_iconst (v := (-1)) dX8_goal_20 (by decide) ?_
    exact v_iret hr dX8_goal_21 (⟨congrArg (fun z => some (Value.int z)) (by first | rfl | (simp only [bq, ifc_T, ifc_F, inr_m1, and_true, true_and, and_false, false_and, or_true, true_or, or_false, false_or, not_true_eq_false, not_false_eq_true, and_self, or_self, h1]; done) | (simp [bq, ifc_T, ifc_F, inr_m1, h1]; done) | ((try simp only [bq]); repeat (first | rfl | (refine eq_t ?_ ?_; focus (first | omega | assumption | (simp [inr_m1, h1]; done) | (simp [inr_m1, h1]; omega) | (clear hr; (try clear hkn); simp_all; done))) | (refine eq_f ?_ ?_; focus (first | omega | assumption | (simp [inr_m1, h1]; done) | (simp [inr_m1, h1]; omega) | (clear hr; (try clear hkn); simp_all; done))) | (exfalso; clear hr; (try clear hkn); simp_all; done)))), ⟨_, (show I = _ from (by first | rfl | (simp only [bq, ifc_T, ifc_F, inr_m1, and_true, true_and, and_false, false_and, or_true, true_or, or_false, false_or, not_true_eq_false, not_false_eq_true, and_self, or_self, h1]; done) | (simp [bq, ifc_T, ifc_F, inr_m1, h1]; done) | ((try simp only [bq]); repeat (first | rfl | (refine eq_t ?_ ?_; focus (first | omega | assumption | (simp [inr_m1, h1]; done) | (simp [inr_m1, h1]; omega) | (clear hr; (try clear hkn); simp_all; done))) | (refine eq_f ?_ ?_; focus (first | omega | assumption | (simp [inr_m1, h1]; done) | (simp [inr_m1, h1]; omega) | (clear hr; (try clear hkn); simp_all; done))) | (exfalso; clear hr; (try clear hkn); simp_all; done))))).trans (scC_self _)⟩, rfl, ⟨_, rfl⟩, rfl, rfl⟩)
  · -- inr pz pp
    obtain ⟨P2, rfl, l3, t4, u5⟩ := inr_ex h1 (by omega)
    refine v_iload_n dX8_goal_8 rfl 2 rfl ?_
    refine v_iconst (v := (-1)) dX8_goal_9 (by decide) ?_
    refine v_icmp_eq (tgt := 22) dX8_goal_10 (by decide) (fun h6 => ?_) (fun h6 => ?_)
    · -- cz eq (-1)
      refine v_aload_n dX8_goal_22 rfl 0 rfl ?_
      refine v_get (v := .ref (g.1 + 23)) fa_X8_51 dX8_goal_23 rfl (by decide) (ltn rfl) rfl ?_
      refine v_get (v := .ref (g.1 + 28)) fa_X8_87 dX8_goal_26 rfl (by decide) (ltn rfl) rfl ?_
      refine v_iload_n dX8_goal_29 rfl 1 rfl ?_
      refine v_iaload (len := 6) (j := P2) dX8_goal_30 rfl (ltn rfl) rfl (by decide) rfl (by omega) ?_
      refine v_istore_n (lv2 := [(3, .int (I 28 P2)), (0, .ref (g.1 + 0)), (1, .int (nI P2)), (2, .int cz)]) dX8_goal_31 rfl (by decide) rfl ?_
      refine v_aload_n dX8_goal_32 rfl 1 rfl ?_
      refine v_get (v := .ref (g.1 + 23)) fa_X8_51 dX8_goal_33 rfl (by decide) (ltn rfl) rfl ?_
      refine v_get (v := .ref (g.1 + 28)) fa_X8_87 dX8_goal_36 rfl (by decide) (ltn rfl) rfl ?_
      refine v_iload_n dX8_goal_39 rfl 2 rfl ?_
      refine v_iload_n dX8_goal_40 rfl 3 rfl ?_
      refine v_iastore (len := 6) (j := P2) dX8_goal_41 rfl (ltn rfl) rfl (by decide) rfl (by omega) ?_
      refine v_iload_n dX8_goal_42 rfl 0 rfl ?_
      refine v_callSi (As := [.int (I 28 P2)]) (rest := []) lk_X8_90 (c_X8_orMissing (I 28 P2)) dX8_goal_43 rfl rfl (Nat.le_of_ble_eq_true rfl) (by decide) ?_
      exact v_iret hr dX8_goal_46 (⟨congrArg (fun z => some (Value.int z)) (by first | rfl | (simp only [bq, ifc_T, ifc_F, inr_m1, and_true, true_and, and_false, false_and, or_true, true_or, or_false, false_or, not_true_eq_false, not_false_eq_true, and_self, or_self, h1, t4, u5, l3, h6]; done) | (simp [bq, ifc_T, ifc_F, inr_m1, h1, t4, u5, l3, h6]; done) | ((try simp only [bq]); repeat (first | rfl | (refine eq_t ?_ ?_; focus (first | omega | assumption | (simp [inr_m1, h1, t4, u5, l3, h6]; done) | (simp [inr_m1, h1, t4, u5, l3, h6]; omega) | (simp only [u5]; omega) | (clear hr; (try clear hkn); simp_all; done))) | (refine eq_f ?_ ?_; focus (first | omega | assumption | (simp [inr_m1, h1, t4, u5, l3, h6]; done) | (simp [inr_m1, h1, t4, u5, l3, h6]; omega) | (simp only [u5]; omega) | (clear hr; (try clear hkn); simp_all; done))) | (simp only [t4]; done) | (exfalso; clear hr; (try clear hkn); simp_all; done)))), ⟨_, (show (wr I 28 P2 cz) = _ from (by first | rfl | (simp only [bq, ifc_T, ifc_F, inr_m1, and_true, true_and, and_false, false_and, or_true, true_or, or_false, false_or, not_true_eq_false, not_false_eq_true, and_self, or_self, h1, t4, u5, l3, h6]; done) | (simp [bq, ifc_T, ifc_F, inr_m1, h1, t4, u5, l3, h6]; done) | ((try simp only [bq]); repeat (first | rfl | (refine eq_t ?_ ?_; focus (first | omega | assumption | (simp [inr_m1, h1, t4, u5, l3, h6]; done) | (simp [inr_m1, h1, t4, u5, l3, h6]; omega) | (simp only [u5]; omega) | (clear hr; (try clear hkn); simp_all; done))) | (refine eq_f ?_ ?_; focus (first | omega | assumption | (simp [inr_m1, h1, t4, u5, l3, h6]; done) | (simp [inr_m1, h1, t4, u5, l3, h6]; omega) | (simp only [u5]; omega) | (clear hr; (try clear hkn); simp_all; done))) | (simp only [t4]; done) | (exfalso; clear hr; (try clear hkn); simp_all; done))))).trans (scC_self _)⟩, rfl, ⟨_, rfl⟩, rfl, rfl⟩)
    · -- cz ne (-1)
      refine v_iload_n dX8_goal_13 rfl 2 rfl ?_
      refine v_callSi (As := [.int cz]) (rest := []) lk_X8_62 (c_X8_isCell cz) dX8_goal_14 rfl rfl (Nat.le_of_ble_eq_true rfl) (by decide) ?_
      refine v_ifb_ne (tgt := 22) dX8_goal_17 (by decide) (fun h7 => ?_) (fun h7 => ?_)
      · -- inr cz 16
        obtain ⟨P8, rfl, l9, t10, u11⟩ := inr_ex h7 (by omega)
        refine v_aload_n dX8_goal_22 rfl 0 rfl ?_
        refine v_get (v := .ref (g.1 + 23)) fa_X8_51 dX8_goal_23 rfl (by decide) (ltn rfl) rfl ?_
        refine v_get (v := .ref (g.1 + 28)) fa_X8_87 dX8_goal_26 rfl (by decide) (ltn rfl) rfl ?_
        refine v_iload_n dX8_goal_29 rfl 1 rfl ?_
        refine v_iaload (len := 6) (j := P2) dX8_goal_30 rfl (ltn rfl) rfl (by decide) rfl (by omega) ?_
        refine v_istore_n (lv2 := [(3, .int (I 28 P2)), (0, .ref (g.1 + 0)), (1, .int (nI P2)), (2, .int (nI P8))]) dX8_goal_31 rfl (by decide) rfl ?_
        refine v_aload_n dX8_goal_32 rfl 1 rfl ?_
        refine v_get (v := .ref (g.1 + 23)) fa_X8_51 dX8_goal_33 rfl (by decide) (ltn rfl) rfl ?_
        refine v_get (v := .ref (g.1 + 28)) fa_X8_87 dX8_goal_36 rfl (by decide) (ltn rfl) rfl ?_
        refine v_iload_n dX8_goal_39 rfl 2 rfl ?_
        refine v_iload_n dX8_goal_40 rfl 3 rfl ?_
        refine v_iastore (len := 6) (j := P2) dX8_goal_41 rfl (ltn rfl) rfl (by decide) rfl (by omega) ?_
        refine v_iload_n dX8_goal_42 rfl 0 rfl ?_
        refine v_callSi (As := [.int (I 28 P2)]) (rest := []) lk_X8_90 (c_X8_orMissing (I 28 P2)) dX8_goal_43 rfl rfl (Nat.le_of_ble_eq_true rfl) (by decide) ?_
        exact v_iret hr dX8_goal_46 (⟨congrArg (fun z => some (Value.int z)) (by first | rfl | (simp only [bq, ifc_T, ifc_F, inr_m1, and_true, true_and, and_false, false_and, or_true, true_or, or_false, false_or, not_true_eq_false, not_false_eq_true, and_self, or_self, h1, t4, u5, l3, h6, h7, t10, u11, l9]; done) | (simp [bq, ifc_T, ifc_F, inr_m1, h1, t4, u5, l3, h6, h7, t10, u11, l9]; done) | ((try simp only [bq]); repeat (first | rfl | (refine eq_t ?_ ?_; focus (first | omega | assumption | (simp [inr_m1, h1, t4, u5, l3, h6, h7, t10, u11, l9]; done) | (simp [inr_m1, h1, t4, u5, l3, h6, h7, t10, u11, l9]; omega) | (simp only [u5, u11]; omega) | (clear hr; (try clear hkn); simp_all; done))) | (refine eq_f ?_ ?_; focus (first | omega | assumption | (simp [inr_m1, h1, t4, u5, l3, h6, h7, t10, u11, l9]; done) | (simp [inr_m1, h1, t4, u5, l3, h6, h7, t10, u11, l9]; omega) | (simp only [u5, u11]; omega) | (clear hr; (try clear hkn); simp_all; done))) | (simp only [t4, t10]; done) | (exfalso; clear hr; (try clear hkn); simp_all; done)))), ⟨_, (show (wr I 28 P2 (nI P8)) = _ from (by first | rfl | (simp only [bq, ifc_T, ifc_F, inr_m1, and_true, true_and, and_false, false_and, or_true, true_or, or_false, false_or, not_true_eq_false, not_false_eq_true, and_self, or_self, h1, t4, u5, l3, h6, h7, t10, u11, l9]; done) | (simp [bq, ifc_T, ifc_F, inr_m1, h1, t4, u5, l3, h6, h7, t10, u11, l9]; done) | ((try simp only [bq]); repeat (first | rfl | (refine eq_t ?_ ?_; focus (first | omega | assumption | (simp [inr_m1, h1, t4, u5, l3, h6, h7, t10, u11, l9]; done) | (simp [inr_m1, h1, t4, u5, l3, h6, h7, t10, u11, l9]; omega) | (simp only [u5, u11]; omega) | (clear hr; (try clear hkn); simp_all; done))) | (refine eq_f ?_ ?_; focus (first | omega | assumption | (simp [inr_m1, h1, t4, u5, l3, h6, h7, t10, u11, l9]; done) | (simp [inr_m1, h1, t4, u5, l3, h6, h7, t10, u11, l9]; omega) | (simp only [u5, u11]; omega) | (clear hr; (try clear hkn); simp_all; done))) | (simp only [t4, t10]; done) | (exfalso; clear hr; (try clear hkn); simp_all; done))))).trans (scC_self _)⟩, rfl, ⟨_, rfl⟩, rfl, rfl⟩)
      · -- not inr cz 16
        refine v_iconst (v := (-1)) dX8_goal_20 (by decide) ?_
        exact v_iret hr dX8_goal_21 (⟨congrArg (fun z => some (Value.int z)) (by first | rfl | (simp only [bq, ifc_T, ifc_F, inr_m1, and_true, true_and, and_false, false_and, or_true, true_or, or_false, false_or, not_true_eq_false, not_false_eq_true, and_self, or_self, h1, t4, u5, l3, h6, h7]; done) | (simp [bq, ifc_T, ifc_F, inr_m1, h1, t4, u5, l3, h6, h7]; done) | ((try simp only [bq]); repeat (first | rfl | (refine eq_t ?_ ?_; focus (first | omega | assumption | (simp [inr_m1, h1, t4, u5, l3, h6, h7]; done) | (simp [inr_m1, h1, t4, u5, l3, h6, h7]; omega) | (simp only [u5]; omega) | (clear hr; (try clear hkn); simp_all; done))) | (refine eq_f ?_ ?_; focus (first | omega | assumption | (simp [inr_m1, h1, t4, u5, l3, h6, h7]; done) | (simp [inr_m1, h1, t4, u5, l3, h6, h7]; omega) | (simp only [u5]; omega) | (clear hr; (try clear hkn); simp_all; done))) | (simp only [t4]; done) | (exfalso; clear hr; (try clear hkn); simp_all; done)))), ⟨_, (show I = _ from (by first | rfl | (simp only [bq, ifc_T, ifc_F, inr_m1, and_true, true_and, and_false, false_and, or_true, true_or, or_false, false_or, not_true_eq_false, not_false_eq_true, and_self, or_self, h1, t4, u5, l3, h6, h7]; done) | (simp [bq, ifc_T, ifc_F, inr_m1, h1, t4, u5, l3, h6, h7]; done) | ((try simp only [bq]); repeat (first | rfl | (refine eq_t ?_ ?_; focus (first | omega | assumption | (simp [inr_m1, h1, t4, u5, l3, h6, h7]; done) | (simp [inr_m1, h1, t4, u5, l3, h6, h7]; omega) | (simp only [u5]; omega) | (clear hr; (try clear hkn); simp_all; done))) | (refine eq_f ?_ ?_; focus (first | omega | assumption | (simp [inr_m1, h1, t4, u5, l3, h6, h7]; done) | (simp [inr_m1, h1, t4, u5, l3, h6, h7]; omega) | (simp only [u5]; omega) | (clear hr; (try clear hkn); simp_all; done))) | (simp only [t4]; done) | (exfalso; clear hr; (try clear hkn); simp_all; done))))).trans (scC_self _)⟩, rfl, ⟨_, rfl⟩, rfl, rfl⟩)
set_option maxRecDepth 100000 in
set_option maxHeartbeats 400000 in
theorem c_X8_put {g : Gl} {I : Ty} {L : TL} {na nt ni m : Nat} {nl : Nat → Nat} (pz : Int32) (cz : Int32) (pp : Nat) (hpp : pp ≤ 6) (hpe : I 23 1 = nI pp) : Ct g yX8_put cX8_put 4 (some .int) 1 0 0 [.ref (g.1 + 0), .int pz, .int cz] I L (RT na nt ni) (NT nl) (NB + m) (PZ na ni m nl (some (.int (ifc (inr pz pp ∧ inr cz 16) (I 27 (tn pz)) (-1)))) (ifc (inr pz pp ∧ inr cz 16) (wr I 27 (tn pz) cz) I) L) := by
  refine ct_of (by decide +kernel) (Nat.le_of_ble_eq_true rfl) (fun F hnm hr => ?_)
  clear hnm
  show V g F cX8_put RX8 4 1 0 [(0, .ref (g.1 + 0)), (1, .int pz), (2, .int cz)] [] I L (RT na nt ni) (NT nl) (NB + m) 0 0
  refine v_aload_n dX8_put_0 rfl 0 rfl ?_
  refine v_iload_n dX8_put_1 rfl 1 rfl ?_
  refine v_callVi (As := [.int pz]) (rest := []) lk_X8_74 (c_X8_isTraveller pz pp hpp hpe) dX8_put_2 rfl (ltn rfl) rfl rfl (Nat.le_of_ble_eq_true rfl) (by decide) ?_
  refine v_ifb_eq (tgt := 15) dX8_put_5 (by decide) (fun h1 => ?_) (fun h1 => ?_)
  · -- not inr pz pp
    refine v_iconst (v := (-1)) dX8_put_15 (by decide) ?_
    exact v_iret hr dX8_put_16 (⟨congrArg (fun z => some (Value.int z)) (by first | rfl | (simp only [bq, ifc_T, ifc_F, inr_m1, and_true, true_and, and_false, false_and, or_true, true_or, or_false, false_or, not_true_eq_false, not_false_eq_true, and_self, or_self, h1]; done) | (simp [bq, ifc_T, ifc_F, inr_m1, h1]; done) | ((try simp only [bq]); repeat (first | rfl | (refine eq_t ?_ ?_; focus (first | omega | assumption | (simp [inr_m1, h1]; done) | (simp [inr_m1, h1]; omega) | (clear hr; (try clear hkn); simp_all; done))) | (refine eq_f ?_ ?_; focus (first | omega | assumption | (simp [inr_m1, h1]; done) | (simp [inr_m1, h1]; omega) | (clear hr; (try clear hkn); simp_all; done))) | (exfalso; clear hr; (try clear hkn); simp_all; done)))), ⟨_, (show I = _ from (by first | rfl | (simp only [bq, ifc_T, ifc_F, inr_m1, and_true, true_and, and_false, false_and, or_true, true_or, or_false, false_or, not_true_eq_false, not_false_eq_true, and_self, or_self, h1]; done) | (simp [bq, ifc_T, ifc_F, inr_m1, h1]; done) | ((try simp only [bq]); repeat (first | rfl | (refine eq_t ?_ ?_; focus (first | omega | assumption | (simp [inr_m1, h1]; done) | (simp [inr_m1, h1]; omega) | (clear hr; (try clear hkn); simp_all; done))) | (refine eq_f ?_ ?_; focus (first | omega | assumption | (simp [inr_m1, h1]; done) | (simp [inr_m1, h1]; omega) | (clear hr; (try clear hkn); simp_all; done))) | (exfalso; clear hr; (try clear hkn); simp_all; done))))).trans (scC_self _)⟩, rfl, ⟨_, rfl⟩, rfl, rfl⟩)
  · -- inr pz pp
    obtain ⟨P2, rfl, l3, t4, u5⟩ := inr_ex h1 (by omega)
    refine v_iload_n dX8_put_8 rfl 2 rfl ?_
    refine v_callSi (As := [.int cz]) (rest := []) lk_X8_62 (c_X8_isCell cz) dX8_put_9 rfl rfl (Nat.le_of_ble_eq_true rfl) (by decide) ?_
    refine v_ifb_ne (tgt := 17) dX8_put_12 (by decide) (fun h6 => ?_) (fun h6 => ?_)
    · -- inr cz 16
      obtain ⟨P7, rfl, l8, t9, u10⟩ := inr_ex h6 (by omega)
      refine v_aload_n dX8_put_17 rfl 0 rfl ?_
      refine v_get (v := .ref (g.1 + 23)) fa_X8_51 dX8_put_18 rfl (by decide) (ltn rfl) rfl ?_
      refine v_get (v := .ref (g.1 + 27)) fa_X8_84 dX8_put_21 rfl (by decide) (ltn rfl) rfl ?_
      refine v_iload_n dX8_put_24 rfl 1 rfl ?_
      refine v_iaload (len := 6) (j := P2) dX8_put_25 rfl (ltn rfl) rfl (by decide) rfl (by omega) ?_
      refine v_istore_n (lv2 := [(3, .int (I 27 P2)), (0, .ref (g.1 + 0)), (1, .int (nI P2)), (2, .int (nI P7))]) dX8_put_26 rfl (by decide) rfl ?_
      refine v_aload_n dX8_put_27 rfl 1 rfl ?_
      refine v_get (v := .ref (g.1 + 23)) fa_X8_51 dX8_put_28 rfl (by decide) (ltn rfl) rfl ?_
      refine v_get (v := .ref (g.1 + 27)) fa_X8_84 dX8_put_31 rfl (by decide) (ltn rfl) rfl ?_
      refine v_iload_n dX8_put_34 rfl 2 rfl ?_
      refine v_iload_n dX8_put_35 rfl 3 rfl ?_
      refine v_iastore (len := 6) (j := P2) dX8_put_36 rfl (ltn rfl) rfl (by decide) rfl (by omega) ?_
      refine v_iload_n dX8_put_37 rfl 0 rfl ?_
      exact v_iret hr dX8_put_38 (⟨congrArg (fun z => some (Value.int z)) (by first | rfl | (simp only [bq, ifc_T, ifc_F, inr_m1, and_true, true_and, and_false, false_and, or_true, true_or, or_false, false_or, not_true_eq_false, not_false_eq_true, and_self, or_self, h1, t4, u5, l3, h6, t9, u10, l8]; done) | (simp [bq, ifc_T, ifc_F, inr_m1, h1, t4, u5, l3, h6, t9, u10, l8]; done) | ((try simp only [bq]); repeat (first | rfl | (refine eq_t ?_ ?_; focus (first | omega | assumption | (simp [inr_m1, h1, t4, u5, l3, h6, t9, u10, l8]; done) | (simp [inr_m1, h1, t4, u5, l3, h6, t9, u10, l8]; omega) | (simp only [u5, u10]; omega) | (clear hr; (try clear hkn); simp_all; done))) | (refine eq_f ?_ ?_; focus (first | omega | assumption | (simp [inr_m1, h1, t4, u5, l3, h6, t9, u10, l8]; done) | (simp [inr_m1, h1, t4, u5, l3, h6, t9, u10, l8]; omega) | (simp only [u5, u10]; omega) | (clear hr; (try clear hkn); simp_all; done))) | (simp only [t4, t9]; done) | (exfalso; clear hr; (try clear hkn); simp_all; done)))), ⟨_, (show (wr I 27 P2 (nI P7)) = _ from (by first | rfl | (simp only [bq, ifc_T, ifc_F, inr_m1, and_true, true_and, and_false, false_and, or_true, true_or, or_false, false_or, not_true_eq_false, not_false_eq_true, and_self, or_self, h1, t4, u5, l3, h6, t9, u10, l8]; done) | (simp [bq, ifc_T, ifc_F, inr_m1, h1, t4, u5, l3, h6, t9, u10, l8]; done) | ((try simp only [bq]); repeat (first | rfl | (refine eq_t ?_ ?_; focus (first | omega | assumption | (simp [inr_m1, h1, t4, u5, l3, h6, t9, u10, l8]; done) | (simp [inr_m1, h1, t4, u5, l3, h6, t9, u10, l8]; omega) | (simp only [u5, u10]; omega) | (clear hr; (try clear hkn); simp_all; done))) | (refine eq_f ?_ ?_; focus (first | omega | assumption | (simp [inr_m1, h1, t4, u5, l3, h6, t9, u10, l8]; done) | (simp [inr_m1, h1, t4, u5, l3, h6, t9, u10, l8]; omega) | (simp only [u5, u10]; omega) | (clear hr; (try clear hkn); simp_all; done))) | (simp only [t4, t9]; done) | (exfalso; clear hr; (try clear hkn); simp_all; done))))).trans (scC_self _)⟩, rfl, ⟨_, rfl⟩, rfl, rfl⟩)
    · -- not inr cz 16
      refine v_iconst (v := (-1)) dX8_put_15 (by decide) ?_
      exact v_iret hr dX8_put_16 (⟨congrArg (fun z => some (Value.int z)) (by first | rfl | (simp only [bq, ifc_T, ifc_F, inr_m1, and_true, true_and, and_false, false_and, or_true, true_or, or_false, false_or, not_true_eq_false, not_false_eq_true, and_self, or_self, h1, t4, u5, l3, h6]; done) | (simp [bq, ifc_T, ifc_F, inr_m1, h1, t4, u5, l3, h6]; done) | ((try simp only [bq]); repeat (first | rfl | (refine eq_t ?_ ?_; focus (first | omega | assumption | (simp [inr_m1, h1, t4, u5, l3, h6]; done) | (simp [inr_m1, h1, t4, u5, l3, h6]; omega) | (simp only [u5]; omega) | (clear hr; (try clear hkn); simp_all; done))) | (refine eq_f ?_ ?_; focus (first | omega | assumption | (simp [inr_m1, h1, t4, u5, l3, h6]; done) | (simp [inr_m1, h1, t4, u5, l3, h6]; omega) | (simp only [u5]; omega) | (clear hr; (try clear hkn); simp_all; done))) | (simp only [t4]; done) | (exfalso; clear hr; (try clear hkn); simp_all; done)))), ⟨_, (show I = _ from (by first | rfl | (simp only [bq, ifc_T, ifc_F, inr_m1, and_true, true_and, and_false, false_and, or_true, true_or, or_false, false_or, not_true_eq_false, not_false_eq_true, and_self, or_self, h1, t4, u5, l3, h6]; done) | (simp [bq, ifc_T, ifc_F, inr_m1, h1, t4, u5, l3, h6]; done) | ((try simp only [bq]); repeat (first | rfl | (refine eq_t ?_ ?_; focus (first | omega | assumption | (simp [inr_m1, h1, t4, u5, l3, h6]; done) | (simp [inr_m1, h1, t4, u5, l3, h6]; omega) | (simp only [u5]; omega) | (clear hr; (try clear hkn); simp_all; done))) | (refine eq_f ?_ ?_; focus (first | omega | assumption | (simp [inr_m1, h1, t4, u5, l3, h6]; done) | (simp [inr_m1, h1, t4, u5, l3, h6]; omega) | (simp only [u5]; omega) | (clear hr; (try clear hkn); simp_all; done))) | (simp only [t4]; done) | (exfalso; clear hr; (try clear hkn); simp_all; done))))).trans (scC_self _)⟩, rfl, ⟨_, rfl⟩, rfl, rfl⟩)
set_option maxRecDepth 100000 in
set_option maxHeartbeats 400000 in
theorem c_X8_chart {g : Gl} {I : Ty} {L : TL} {na nt ni m : Nat} {nl : Nat → Nat} (pz : Int32) (xz : Int32) (pp : Nat) (hpp : pp ≤ 6) (hpe : I 23 1 = nI pp) : Ct g yX8_chart cX8_chart 4 (some .int) 1 0 0 [.ref (g.1 + 0), .int pz, .int xz] I L (RT na nt ni) (NT nl) (NB + m) (PZ na ni m nl (some (.int (ifc (inr pz pp) (ifc (inr xz 65536) (I 29 (tn pz)) (-2)) (-1)))) (ifc (inr pz pp ∧ inr xz 65536) (wr I 29 (tn pz) xz) I) L) := by
  refine ct_of (by decide +kernel) (Nat.le_of_ble_eq_true rfl) (fun F hnm hr => ?_)
  clear hnm
  show V g F cX8_chart RX8 4 1 0 [(0, .ref (g.1 + 0)), (1, .int pz), (2, .int xz)] [] I L (RT na nt ni) (NT nl) (NB + m) 0 0
  refine v_aload_n dX8_chart_0 rfl 0 rfl ?_
  refine v_iload_n dX8_chart_1 rfl 1 rfl ?_
  refine v_callVi (As := [.int pz]) (rest := []) lk_X8_74 (c_X8_isTraveller pz pp hpp hpe) dX8_chart_2 rfl (ltn rfl) rfl rfl (Nat.le_of_ble_eq_true rfl) (by decide) ?_
  refine v_ifb_ne (tgt := 10) dX8_chart_5 (by decide) (fun h1 => ?_) (fun h1 => ?_)
  · -- inr pz pp
    obtain ⟨P2, rfl, l3, t4, u5⟩ := inr_ex h1 (by omega)
    refine v_iload_n dX8_chart_10 rfl 2 rfl ?_
    refine v_callSi (As := [.int xz]) (rest := []) lk_X8_119 (c_X8_isChart xz) dX8_chart_11 rfl rfl (Nat.le_of_ble_eq_true rfl) (by decide) ?_
    refine v_ifb_ne (tgt := 20) dX8_chart_14 (by decide) (fun h6 => ?_) (fun h6 => ?_)
    · -- inr xz 65536
      obtain ⟨P7, rfl, l8, t9, u10⟩ := inr_ex h6 (by omega)
      refine v_aload_n dX8_chart_20 rfl 0 rfl ?_
      refine v_get (v := .ref (g.1 + 23)) fa_X8_51 dX8_chart_21 rfl (by decide) (ltn rfl) rfl ?_
      refine v_get (v := .ref (g.1 + 29)) fa_X8_94 dX8_chart_24 rfl (by decide) (ltn rfl) rfl ?_
      refine v_iload_n dX8_chart_27 rfl 1 rfl ?_
      refine v_iaload (len := 6) (j := P2) dX8_chart_28 rfl (ltn rfl) rfl (by decide) rfl (by omega) ?_
      refine v_istore_n (lv2 := [(3, .int (I 29 P2)), (0, .ref (g.1 + 0)), (1, .int (nI P2)), (2, .int (nI P7))]) dX8_chart_29 rfl (by decide) rfl ?_
      refine v_aload_n dX8_chart_30 rfl 1 rfl ?_
      refine v_get (v := .ref (g.1 + 23)) fa_X8_51 dX8_chart_31 rfl (by decide) (ltn rfl) rfl ?_
      refine v_get (v := .ref (g.1 + 29)) fa_X8_94 dX8_chart_34 rfl (by decide) (ltn rfl) rfl ?_
      refine v_iload_n dX8_chart_37 rfl 2 rfl ?_
      refine v_iload_n dX8_chart_38 rfl 3 rfl ?_
      refine v_iastore (len := 6) (j := P2) dX8_chart_39 rfl (ltn rfl) rfl (by decide) rfl (by omega) ?_
      refine v_iload_n dX8_chart_40 rfl 0 rfl ?_
      exact v_iret hr dX8_chart_41 (⟨congrArg (fun z => some (Value.int z)) (by first | rfl | (simp only [bq, ifc_T, ifc_F, inr_m1, and_true, true_and, and_false, false_and, or_true, true_or, or_false, false_or, not_true_eq_false, not_false_eq_true, and_self, or_self, h1, t4, u5, l3, h6, t9, u10, l8]; done) | (simp [bq, ifc_T, ifc_F, inr_m1, h1, t4, u5, l3, h6, t9, u10, l8]; done) | ((try simp only [bq]); repeat (first | rfl | (refine eq_t ?_ ?_; focus (first | omega | assumption | (simp [inr_m1, h1, t4, u5, l3, h6, t9, u10, l8]; done) | (simp [inr_m1, h1, t4, u5, l3, h6, t9, u10, l8]; omega) | (simp only [u5, u10]; omega) | (clear hr; (try clear hkn); simp_all; done))) | (refine eq_f ?_ ?_; focus (first | omega | assumption | (simp [inr_m1, h1, t4, u5, l3, h6, t9, u10, l8]; done) | (simp [inr_m1, h1, t4, u5, l3, h6, t9, u10, l8]; omega) | (simp only [u5, u10]; omega) | (clear hr; (try clear hkn); simp_all; done))) | (simp only [t4, t9]; done) | (exfalso; clear hr; (try clear hkn); simp_all; done)))), ⟨_, (show (wr I 29 P2 (nI P7)) = _ from (by first | rfl | (simp only [bq, ifc_T, ifc_F, inr_m1, and_true, true_and, and_false, false_and, or_true, true_or, or_false, false_or, not_true_eq_false, not_false_eq_true, and_self, or_self, h1, t4, u5, l3, h6, t9, u10, l8]; done) | (simp [bq, ifc_T, ifc_F, inr_m1, h1, t4, u5, l3, h6, t9, u10, l8]; done) | ((try simp only [bq]); repeat (first | rfl | (refine eq_t ?_ ?_; focus (first | omega | assumption | (simp [inr_m1, h1, t4, u5, l3, h6, t9, u10, l8]; done) | (simp [inr_m1, h1, t4, u5, l3, h6, t9, u10, l8]; omega) | (simp only [u5, u10]; omega) | (clear hr; (try clear hkn); simp_all; done))) | (refine eq_f ?_ ?_; focus (first | omega | assumption | (simp [inr_m1, h1, t4, u5, l3, h6, t9, u10, l8]; done) | (simp [inr_m1, h1, t4, u5, l3, h6, t9, u10, l8]; omega) | (simp only [u5, u10]; omega) | (clear hr; (try clear hkn); simp_all; done))) | (simp only [t4, t9]; done) | (exfalso; clear hr; (try clear hkn); simp_all; done))))).trans (scC_self _)⟩, rfl, ⟨_, rfl⟩, rfl, rfl⟩)
    · -- not inr xz 65536
      refine v_bipush (v := (-2)) dX8_chart_17 (by decide) ?_
      exact v_iret hr dX8_chart_19 (⟨congrArg (fun z => some (Value.int z)) (by first | rfl | (simp only [bq, ifc_T, ifc_F, inr_m1, and_true, true_and, and_false, false_and, or_true, true_or, or_false, false_or, not_true_eq_false, not_false_eq_true, and_self, or_self, h1, t4, u5, l3, h6]; done) | (simp [bq, ifc_T, ifc_F, inr_m1, h1, t4, u5, l3, h6]; done) | ((try simp only [bq]); repeat (first | rfl | (refine eq_t ?_ ?_; focus (first | omega | assumption | (simp [inr_m1, h1, t4, u5, l3, h6]; done) | (simp [inr_m1, h1, t4, u5, l3, h6]; omega) | (simp only [u5]; omega) | (clear hr; (try clear hkn); simp_all; done))) | (refine eq_f ?_ ?_; focus (first | omega | assumption | (simp [inr_m1, h1, t4, u5, l3, h6]; done) | (simp [inr_m1, h1, t4, u5, l3, h6]; omega) | (simp only [u5]; omega) | (clear hr; (try clear hkn); simp_all; done))) | (simp only [t4]; done) | (exfalso; clear hr; (try clear hkn); simp_all; done)))), ⟨_, (show I = _ from (by first | rfl | (simp only [bq, ifc_T, ifc_F, inr_m1, and_true, true_and, and_false, false_and, or_true, true_or, or_false, false_or, not_true_eq_false, not_false_eq_true, and_self, or_self, h1, t4, u5, l3, h6]; done) | (simp [bq, ifc_T, ifc_F, inr_m1, h1, t4, u5, l3, h6]; done) | ((try simp only [bq]); repeat (first | rfl | (refine eq_t ?_ ?_; focus (first | omega | assumption | (simp [inr_m1, h1, t4, u5, l3, h6]; done) | (simp [inr_m1, h1, t4, u5, l3, h6]; omega) | (simp only [u5]; omega) | (clear hr; (try clear hkn); simp_all; done))) | (refine eq_f ?_ ?_; focus (first | omega | assumption | (simp [inr_m1, h1, t4, u5, l3, h6]; done) | (simp [inr_m1, h1, t4, u5, l3, h6]; omega) | (simp only [u5]; omega) | (clear hr; (try clear hkn); simp_all; done))) | (simp only [t4]; done) | (exfalso; clear hr; (try clear hkn); simp_all; done))))).trans (scC_self _)⟩, rfl, ⟨_, rfl⟩, rfl, rfl⟩)
  · -- not inr pz pp
    refine v_iconst (v := (-1)) dX8_chart_8 (by decide) ?_
    exact v_iret hr dX8_chart_9 (⟨congrArg (fun z => some (Value.int z)) (by first | rfl | (simp only [bq, ifc_T, ifc_F, inr_m1, and_true, true_and, and_false, false_and, or_true, true_or, or_false, false_or, not_true_eq_false, not_false_eq_true, and_self, or_self, h1]; done) | (simp [bq, ifc_T, ifc_F, inr_m1, h1]; done) | ((try simp only [bq]); repeat (first | rfl | (refine eq_t ?_ ?_; focus (first | omega | assumption | (simp [inr_m1, h1]; done) | (simp [inr_m1, h1]; omega) | (clear hr; (try clear hkn); simp_all; done))) | (refine eq_f ?_ ?_; focus (first | omega | assumption | (simp [inr_m1, h1]; done) | (simp [inr_m1, h1]; omega) | (clear hr; (try clear hkn); simp_all; done))) | (exfalso; clear hr; (try clear hkn); simp_all; done)))), ⟨_, (show I = _ from (by first | rfl | (simp only [bq, ifc_T, ifc_F, inr_m1, and_true, true_and, and_false, false_and, or_true, true_or, or_false, false_or, not_true_eq_false, not_false_eq_true, and_self, or_self, h1]; done) | (simp [bq, ifc_T, ifc_F, inr_m1, h1]; done) | ((try simp only [bq]); repeat (first | rfl | (refine eq_t ?_ ?_; focus (first | omega | assumption | (simp [inr_m1, h1]; done) | (simp [inr_m1, h1]; omega) | (clear hr; (try clear hkn); simp_all; done))) | (refine eq_f ?_ ?_; focus (first | omega | assumption | (simp [inr_m1, h1]; done) | (simp [inr_m1, h1]; omega) | (clear hr; (try clear hkn); simp_all; done))) | (exfalso; clear hr; (try clear hkn); simp_all; done))))).trans (scC_self _)⟩, rfl, ⟨_, rfl⟩, rfl, rfl⟩)
set_option maxRecDepth 100000 in
set_option maxHeartbeats 400000 in
theorem c_X8_gate {g : Gl} {I : Ty} {L : TL} {na nt ni m : Nat} {nl : Nat → Nat} (cz : Int32) (nz : Int32)  : Ct g yX8_gate cX8_gate 4 (some .int) 1 0 0 [.ref (g.1 + 0), .int cz, .int nz] I L (RT na nt ni) (NT nl) (NB + m) (PZ na ni m nl (some (.int (ifc (inr cz 16) (ifc (inr nz 10) (I 24 (tn cz)) (-2)) (-1)))) (ifc (inr cz 16 ∧ inr nz 10) (wr I 24 (tn cz) nz) I) L) := by
  refine ct_of (by decide +kernel) (Nat.le_of_ble_eq_true rfl) (fun F hnm hr => ?_)
  clear hnm
  show V g F cX8_gate RX8 4 1 0 [(0, .ref (g.1 + 0)), (1, .int cz), (2, .int nz)] [] I L (RT na nt ni) (NT nl) (NB + m) 0 0
  refine v_iload_n dX8_gate_0 rfl 1 rfl ?_
  refine v_callSi (As := [.int cz]) (rest := []) lk_X8_62 (c_X8_isCell cz) dX8_gate_1 rfl rfl (Nat.le_of_ble_eq_true rfl) (by decide) ?_
  refine v_ifb_ne (tgt := 9) dX8_gate_4 (by decide) (fun h1 => ?_) (fun h1 => ?_)
  · -- inr cz 16
    obtain ⟨P2, rfl, l3, t4, u5⟩ := inr_ex h1 (by omega)
    refine v_iload_n dX8_gate_9 rfl 2 rfl ?_
    refine v_if_lt (tgt := 19) dX8_gate_10 (by decide) (fun h6 => ?_) (fun h6 => ?_)
    · -- nz lt 0
      have r7 : ¬ inr nz 10 := inr_lo h6
      -- not inr nz 10
      refine v_bipush (v := (-2)) dX8_gate_19 (by decide) ?_
      exact v_iret hr dX8_gate_21 (⟨congrArg (fun z => some (Value.int z)) (by first | rfl | (simp only [bq, ifc_T, ifc_F, inr_m1, and_true, true_and, and_false, false_and, or_true, true_or, or_false, false_or, not_true_eq_false, not_false_eq_true, and_self, or_self, h1, t4, u5, l3, h6, r7]; done) | (simp [bq, ifc_T, ifc_F, inr_m1, h1, t4, u5, l3, h6, r7]; done) | ((try simp only [bq]); repeat (first | rfl | (refine eq_t ?_ ?_; focus (first | omega | assumption | (simp [inr_m1, h1, t4, u5, l3, h6, r7]; done) | (simp [inr_m1, h1, t4, u5, l3, h6, r7]; omega) | (simp only [u5]; omega) | (clear hr; (try clear hkn); simp_all; done))) | (refine eq_f ?_ ?_; focus (first | omega | assumption | (simp [inr_m1, h1, t4, u5, l3, h6, r7]; done) | (simp [inr_m1, h1, t4, u5, l3, h6, r7]; omega) | (simp only [u5]; omega) | (clear hr; (try clear hkn); simp_all; done))) | (simp only [t4]; done) | (exfalso; clear hr; (try clear hkn); simp_all; done)))), ⟨_, (show I = _ from (by first | rfl | (simp only [bq, ifc_T, ifc_F, inr_m1, and_true, true_and, and_false, false_and, or_true, true_or, or_false, false_or, not_true_eq_false, not_false_eq_true, and_self, or_self, h1, t4, u5, l3, h6, r7]; done) | (simp [bq, ifc_T, ifc_F, inr_m1, h1, t4, u5, l3, h6, r7]; done) | ((try simp only [bq]); repeat (first | rfl | (refine eq_t ?_ ?_; focus (first | omega | assumption | (simp [inr_m1, h1, t4, u5, l3, h6, r7]; done) | (simp [inr_m1, h1, t4, u5, l3, h6, r7]; omega) | (simp only [u5]; omega) | (clear hr; (try clear hkn); simp_all; done))) | (refine eq_f ?_ ?_; focus (first | omega | assumption | (simp [inr_m1, h1, t4, u5, l3, h6, r7]; done) | (simp [inr_m1, h1, t4, u5, l3, h6, r7]; omega) | (simp only [u5]; omega) | (clear hr; (try clear hkn); simp_all; done))) | (simp only [t4]; done) | (exfalso; clear hr; (try clear hkn); simp_all; done))))).trans (scC_self _)⟩, rfl, ⟨_, rfl⟩, rfl, rfl⟩)
    · -- nz ge 0
      refine v_iload_n dX8_gate_13 rfl 2 rfl ?_
      refine v_bipush (v := 10) dX8_gate_14 (by decide) ?_
      refine v_icmp_lt (tgt := 22) dX8_gate_16 (by decide) (fun h8 => ?_) (fun h8 => ?_)
      · -- nz lt 10
        have r9 : inr nz 10 := inr_mk (by omega) h6 (Int32.not_le.mpr h8)
        -- inr nz 10
        obtain ⟨P10, rfl, l11, t12, u13⟩ := inr_ex r9 (by omega)
        refine v_aload_n dX8_gate_22 rfl 0 rfl ?_
        refine v_get (v := .ref (g.1 + 23)) fa_X8_51 dX8_gate_23 rfl (by decide) (ltn rfl) rfl ?_
        refine v_get (v := .ref (g.1 + 24)) fa_X8_122 dX8_gate_26 rfl (by decide) (ltn rfl) rfl ?_
        refine v_iload_n dX8_gate_29 rfl 1 rfl ?_
        refine v_iaload (len := 16) (j := P2) dX8_gate_30 rfl (ltn rfl) rfl (by decide) rfl (by omega) ?_
        refine v_istore_n (lv2 := [(3, .int (I 24 P2)), (0, .ref (g.1 + 0)), (1, .int (nI P2)), (2, .int (nI P10))]) dX8_gate_31 rfl (by decide) rfl ?_
        refine v_aload_n dX8_gate_32 rfl 1 rfl ?_
        refine v_get (v := .ref (g.1 + 23)) fa_X8_51 dX8_gate_33 rfl (by decide) (ltn rfl) rfl ?_
        refine v_get (v := .ref (g.1 + 24)) fa_X8_122 dX8_gate_36 rfl (by decide) (ltn rfl) rfl ?_
        refine v_iload_n dX8_gate_39 rfl 2 rfl ?_
        refine v_iload_n dX8_gate_40 rfl 3 rfl ?_
        refine v_iastore (len := 16) (j := P2) dX8_gate_41 rfl (ltn rfl) rfl (by decide) rfl (by omega) ?_
        refine v_iload_n dX8_gate_42 rfl 0 rfl ?_
        exact v_iret hr dX8_gate_43 (⟨congrArg (fun z => some (Value.int z)) (by first | rfl | (simp only [bq, ifc_T, ifc_F, inr_m1, and_true, true_and, and_false, false_and, or_true, true_or, or_false, false_or, not_true_eq_false, not_false_eq_true, and_self, or_self, h1, t4, u5, l3, h6, h8, r9, t12, u13, l11]; done) | (simp [bq, ifc_T, ifc_F, inr_m1, h1, t4, u5, l3, h6, h8, r9, t12, u13, l11]; done) | ((try simp only [bq]); repeat (first | rfl | (refine eq_t ?_ ?_; focus (first | omega | assumption | (simp [inr_m1, h1, t4, u5, l3, h6, h8, r9, t12, u13, l11]; done) | (simp [inr_m1, h1, t4, u5, l3, h6, h8, r9, t12, u13, l11]; omega) | (simp only [u5, u13]; omega) | (clear hr; (try clear hkn); simp_all; done))) | (refine eq_f ?_ ?_; focus (first | omega | assumption | (simp [inr_m1, h1, t4, u5, l3, h6, h8, r9, t12, u13, l11]; done) | (simp [inr_m1, h1, t4, u5, l3, h6, h8, r9, t12, u13, l11]; omega) | (simp only [u5, u13]; omega) | (clear hr; (try clear hkn); simp_all; done))) | (simp only [t4, t12]; done) | (exfalso; clear hr; (try clear hkn); simp_all; done)))), ⟨_, (show (wr I 24 P2 (nI P10)) = _ from (by first | rfl | (simp only [bq, ifc_T, ifc_F, inr_m1, and_true, true_and, and_false, false_and, or_true, true_or, or_false, false_or, not_true_eq_false, not_false_eq_true, and_self, or_self, h1, t4, u5, l3, h6, h8, r9, t12, u13, l11]; done) | (simp [bq, ifc_T, ifc_F, inr_m1, h1, t4, u5, l3, h6, h8, r9, t12, u13, l11]; done) | ((try simp only [bq]); repeat (first | rfl | (refine eq_t ?_ ?_; focus (first | omega | assumption | (simp [inr_m1, h1, t4, u5, l3, h6, h8, r9, t12, u13, l11]; done) | (simp [inr_m1, h1, t4, u5, l3, h6, h8, r9, t12, u13, l11]; omega) | (simp only [u5, u13]; omega) | (clear hr; (try clear hkn); simp_all; done))) | (refine eq_f ?_ ?_; focus (first | omega | assumption | (simp [inr_m1, h1, t4, u5, l3, h6, h8, r9, t12, u13, l11]; done) | (simp [inr_m1, h1, t4, u5, l3, h6, h8, r9, t12, u13, l11]; omega) | (simp only [u5, u13]; omega) | (clear hr; (try clear hkn); simp_all; done))) | (simp only [t4, t12]; done) | (exfalso; clear hr; (try clear hkn); simp_all; done))))).trans (scC_self _)⟩, rfl, ⟨_, rfl⟩, rfl, rfl⟩)
      · -- nz ge 10
        have r14 : ¬ inr nz 10 := inr_hi (by omega) (Int32.not_lt.mp h8)
        -- not inr nz 10
        refine v_bipush (v := (-2)) dX8_gate_19 (by decide) ?_
        exact v_iret hr dX8_gate_21 (⟨congrArg (fun z => some (Value.int z)) (by first | rfl | (simp only [bq, ifc_T, ifc_F, inr_m1, and_true, true_and, and_false, false_and, or_true, true_or, or_false, false_or, not_true_eq_false, not_false_eq_true, and_self, or_self, h1, t4, u5, l3, h6, h8, r14]; done) | (simp [bq, ifc_T, ifc_F, inr_m1, h1, t4, u5, l3, h6, h8, r14]; done) | ((try simp only [bq]); repeat (first | rfl | (refine eq_t ?_ ?_; focus (first | omega | assumption | (simp [inr_m1, h1, t4, u5, l3, h6, h8, r14]; done) | (simp [inr_m1, h1, t4, u5, l3, h6, h8, r14]; omega) | (simp only [u5]; omega) | (clear hr; (try clear hkn); simp_all; done))) | (refine eq_f ?_ ?_; focus (first | omega | assumption | (simp [inr_m1, h1, t4, u5, l3, h6, h8, r14]; done) | (simp [inr_m1, h1, t4, u5, l3, h6, h8, r14]; omega) | (simp only [u5]; omega) | (clear hr; (try clear hkn); simp_all; done))) | (simp only [t4]; done) | (exfalso; clear hr; (try clear hkn); simp_all; done)))), ⟨_, (show I = _ from (by first | rfl | (simp only [bq, ifc_T, ifc_F, inr_m1, and_true, true_and, and_false, false_and, or_true, true_or, or_false, false_or, not_true_eq_false, not_false_eq_true, and_self, or_self, h1, t4, u5, l3, h6, h8, r14]; done) | (simp [bq, ifc_T, ifc_F, inr_m1, h1, t4, u5, l3, h6, h8, r14]; done) | ((try simp only [bq]); repeat (first | rfl | (refine eq_t ?_ ?_; focus (first | omega | assumption | (simp [inr_m1, h1, t4, u5, l3, h6, h8, r14]; done) | (simp [inr_m1, h1, t4, u5, l3, h6, h8, r14]; omega) | (simp only [u5]; omega) | (clear hr; (try clear hkn); simp_all; done))) | (refine eq_f ?_ ?_; focus (first | omega | assumption | (simp [inr_m1, h1, t4, u5, l3, h6, h8, r14]; done) | (simp [inr_m1, h1, t4, u5, l3, h6, h8, r14]; omega) | (simp only [u5]; omega) | (clear hr; (try clear hkn); simp_all; done))) | (simp only [t4]; done) | (exfalso; clear hr; (try clear hkn); simp_all; done))))).trans (scC_self _)⟩, rfl, ⟨_, rfl⟩, rfl, rfl⟩)
  · -- not inr cz 16
    refine v_iconst (v := (-1)) dX8_gate_7 (by decide) ?_
    exact v_iret hr dX8_gate_8 (⟨congrArg (fun z => some (Value.int z)) (by first | rfl | (simp only [bq, ifc_T, ifc_F, inr_m1, and_true, true_and, and_false, false_and, or_true, true_or, or_false, false_or, not_true_eq_false, not_false_eq_true, and_self, or_self, h1]; done) | (simp [bq, ifc_T, ifc_F, inr_m1, h1]; done) | ((try simp only [bq]); repeat (first | rfl | (refine eq_t ?_ ?_; focus (first | omega | assumption | (simp [inr_m1, h1]; done) | (simp [inr_m1, h1]; omega) | (clear hr; (try clear hkn); simp_all; done))) | (refine eq_f ?_ ?_; focus (first | omega | assumption | (simp [inr_m1, h1]; done) | (simp [inr_m1, h1]; omega) | (clear hr; (try clear hkn); simp_all; done))) | (exfalso; clear hr; (try clear hkn); simp_all; done)))), ⟨_, (show I = _ from (by first | rfl | (simp only [bq, ifc_T, ifc_F, inr_m1, and_true, true_and, and_false, false_and, or_true, true_or, or_false, false_or, not_true_eq_false, not_false_eq_true, and_self, or_self, h1]; done) | (simp [bq, ifc_T, ifc_F, inr_m1, h1]; done) | ((try simp only [bq]); repeat (first | rfl | (refine eq_t ?_ ?_; focus (first | omega | assumption | (simp [inr_m1, h1]; done) | (simp [inr_m1, h1]; omega) | (clear hr; (try clear hkn); simp_all; done))) | (refine eq_f ?_ ?_; focus (first | omega | assumption | (simp [inr_m1, h1]; done) | (simp [inr_m1, h1]; omega) | (clear hr; (try clear hkn); simp_all; done))) | (exfalso; clear hr; (try clear hkn); simp_all; done))))).trans (scC_self _)⟩, rfl, ⟨_, rfl⟩, rfl, rfl⟩)
set_option maxRecDepth 100000 in
set_option maxHeartbeats 400000 in
theorem c_X8_row {g : Gl} {I : Ty} {L : TL} {na nt ni m : Nat} {nl : Nat → Nat} (pz : Int32) (qz : Int32) (nz : Int32) (pp : Nat) (hpp : pp ≤ 6) (hpe : I 23 1 = nI pp) : Ct g yX8_row cX8_row 6 (some .int) 1 0 0 [.ref (g.1 + 0), .int pz, .int qz, .int nz] I L (RT na nt ni) (NT nl) (NB + m) (PZ na ni m nl (some (.int (ifc (inr pz pp ∧ inr qz 4) (ifc (inr nz 10) (ifc (I 25 (tn pz) = 6) (I 31 (4 * tn pz + tn qz)) (-3)) (-2)) (-1)))) (ifc (inr pz pp ∧ inr qz 4 ∧ inr nz 10 ∧ I 25 (tn pz) = 6) (wr I 31 (4 * tn pz + tn qz) nz) I) L) := by
  refine ct_of (by decide +kernel) (Nat.le_of_ble_eq_true rfl) (fun F hnm hr => ?_)
  clear hnm
  show V g F cX8_row RX8 6 1 0 [(0, .ref (g.1 + 0)), (1, .int pz), (2, .int qz), (3, .int nz)] [] I L (RT na nt ni) (NT nl) (NB + m) 0 0
  refine v_aload_n dX8_row_0 rfl 0 rfl ?_
  refine v_iload_n dX8_row_1 rfl 1 rfl ?_
  refine v_callVi (As := [.int pz]) (rest := []) lk_X8_74 (c_X8_isTraveller pz pp hpp hpe) dX8_row_2 rfl (ltn rfl) rfl rfl (Nat.le_of_ble_eq_true rfl) (by decide) ?_
  refine v_ifb_eq (tgt := 17) dX8_row_5 (by decide) (fun h1 => ?_) (fun h1 => ?_)
  · -- not inr pz pp
    refine v_iconst (v := (-1)) dX8_row_17 (by decide) ?_
    exact v_iret hr dX8_row_18 (⟨congrArg (fun z => some (Value.int z)) (by first | rfl | (simp only [bq, ifc_T, ifc_F, inr_m1, and_true, true_and, and_false, false_and, or_true, true_or, or_false, false_or, not_true_eq_false, not_false_eq_true, and_self, or_self, h1]; done) | (simp [bq, ifc_T, ifc_F, inr_m1, h1]; done) | ((try simp only [bq]); repeat (first | rfl | (refine eq_t ?_ ?_; focus (first | omega | assumption | (simp [inr_m1, h1]; done) | (simp [inr_m1, h1]; omega) | (clear hr; (try clear hkn); simp_all; done))) | (refine eq_f ?_ ?_; focus (first | omega | assumption | (simp [inr_m1, h1]; done) | (simp [inr_m1, h1]; omega) | (clear hr; (try clear hkn); simp_all; done))) | (exfalso; clear hr; (try clear hkn); simp_all; done)))), ⟨_, (show I = _ from (by first | rfl | (simp only [bq, ifc_T, ifc_F, inr_m1, and_true, true_and, and_false, false_and, or_true, true_or, or_false, false_or, not_true_eq_false, not_false_eq_true, and_self, or_self, h1]; done) | (simp [bq, ifc_T, ifc_F, inr_m1, h1]; done) | ((try simp only [bq]); repeat (first | rfl | (refine eq_t ?_ ?_; focus (first | omega | assumption | (simp [inr_m1, h1]; done) | (simp [inr_m1, h1]; omega) | (clear hr; (try clear hkn); simp_all; done))) | (refine eq_f ?_ ?_; focus (first | omega | assumption | (simp [inr_m1, h1]; done) | (simp [inr_m1, h1]; omega) | (clear hr; (try clear hkn); simp_all; done))) | (exfalso; clear hr; (try clear hkn); simp_all; done))))).trans (scC_self _)⟩, rfl, ⟨_, rfl⟩, rfl, rfl⟩)
  · -- inr pz pp
    obtain ⟨P2, rfl, l3, t4, u5⟩ := inr_ex h1 (by omega)
    refine v_iload_n dX8_row_8 rfl 2 rfl ?_
    refine v_if_lt (tgt := 17) dX8_row_9 (by decide) (fun h6 => ?_) (fun h6 => ?_)
    · -- qz lt 0
      have r7 : ¬ inr qz 4 := inr_lo h6
      -- not inr qz 4
      refine v_iconst (v := (-1)) dX8_row_17 (by decide) ?_
      exact v_iret hr dX8_row_18 (⟨congrArg (fun z => some (Value.int z)) (by first | rfl | (simp only [bq, ifc_T, ifc_F, inr_m1, and_true, true_and, and_false, false_and, or_true, true_or, or_false, false_or, not_true_eq_false, not_false_eq_true, and_self, or_self, h1, t4, u5, l3, h6, r7]; done) | (simp [bq, ifc_T, ifc_F, inr_m1, h1, t4, u5, l3, h6, r7]; done) | ((try simp only [bq]); repeat (first | rfl | (refine eq_t ?_ ?_; focus (first | omega | assumption | (simp [inr_m1, h1, t4, u5, l3, h6, r7]; done) | (simp [inr_m1, h1, t4, u5, l3, h6, r7]; omega) | (simp only [u5]; omega) | (clear hr; (try clear hkn); simp_all; done))) | (refine eq_f ?_ ?_; focus (first | omega | assumption | (simp [inr_m1, h1, t4, u5, l3, h6, r7]; done) | (simp [inr_m1, h1, t4, u5, l3, h6, r7]; omega) | (simp only [u5]; omega) | (clear hr; (try clear hkn); simp_all; done))) | (simp only [t4]; done) | (exfalso; clear hr; (try clear hkn); simp_all; done)))), ⟨_, (show I = _ from (by first | rfl | (simp only [bq, ifc_T, ifc_F, inr_m1, and_true, true_and, and_false, false_and, or_true, true_or, or_false, false_or, not_true_eq_false, not_false_eq_true, and_self, or_self, h1, t4, u5, l3, h6, r7]; done) | (simp [bq, ifc_T, ifc_F, inr_m1, h1, t4, u5, l3, h6, r7]; done) | ((try simp only [bq]); repeat (first | rfl | (refine eq_t ?_ ?_; focus (first | omega | assumption | (simp [inr_m1, h1, t4, u5, l3, h6, r7]; done) | (simp [inr_m1, h1, t4, u5, l3, h6, r7]; omega) | (simp only [u5]; omega) | (clear hr; (try clear hkn); simp_all; done))) | (refine eq_f ?_ ?_; focus (first | omega | assumption | (simp [inr_m1, h1, t4, u5, l3, h6, r7]; done) | (simp [inr_m1, h1, t4, u5, l3, h6, r7]; omega) | (simp only [u5]; omega) | (clear hr; (try clear hkn); simp_all; done))) | (simp only [t4]; done) | (exfalso; clear hr; (try clear hkn); simp_all; done))))).trans (scC_self _)⟩, rfl, ⟨_, rfl⟩, rfl, rfl⟩)
    · -- qz ge 0
      refine v_iload_n dX8_row_12 rfl 2 rfl ?_
      refine v_iconst (v := 4) dX8_row_13 (by decide) ?_
      refine v_icmp_lt (tgt := 19) dX8_row_14 (by decide) (fun h8 => ?_) (fun h8 => ?_)
      · -- qz lt 4
        have r9 : inr qz 4 := inr_mk (by omega) h6 (Int32.not_le.mpr h8)
        -- inr qz 4
        obtain ⟨P10, rfl, l11, t12, u13⟩ := inr_ex r9 (by omega)
        refine v_iload_n dX8_row_19 rfl 3 rfl ?_
        refine v_if_lt (tgt := 29) dX8_row_20 (by decide) (fun h14 => ?_) (fun h14 => ?_)
        · -- nz lt 0
          have r15 : ¬ inr nz 10 := inr_lo h14
          -- not inr nz 10
          refine v_bipush (v := (-2)) dX8_row_29 (by decide) ?_
          exact v_iret hr dX8_row_31 (⟨congrArg (fun z => some (Value.int z)) (by first | rfl | (simp only [bq, ifc_T, ifc_F, inr_m1, and_true, true_and, and_false, false_and, or_true, true_or, or_false, false_or, not_true_eq_false, not_false_eq_true, and_self, or_self, h1, t4, u5, l3, h6, h8, r9, t12, u13, l11, h14, r15]; done) | (simp [bq, ifc_T, ifc_F, inr_m1, h1, t4, u5, l3, h6, h8, r9, t12, u13, l11, h14, r15]; done) | ((try simp only [bq]); repeat (first | rfl | (refine eq_t ?_ ?_; focus (first | omega | assumption | (simp [inr_m1, h1, t4, u5, l3, h6, h8, r9, t12, u13, l11, h14, r15]; done) | (simp [inr_m1, h1, t4, u5, l3, h6, h8, r9, t12, u13, l11, h14, r15]; omega) | (simp only [u5, u13]; omega) | (clear hr; (try clear hkn); simp_all; done))) | (refine eq_f ?_ ?_; focus (first | omega | assumption | (simp [inr_m1, h1, t4, u5, l3, h6, h8, r9, t12, u13, l11, h14, r15]; done) | (simp [inr_m1, h1, t4, u5, l3, h6, h8, r9, t12, u13, l11, h14, r15]; omega) | (simp only [u5, u13]; omega) | (clear hr; (try clear hkn); simp_all; done))) | (simp only [t4, t12]; done) | (exfalso; clear hr; (try clear hkn); simp_all; done)))), ⟨_, (show I = _ from (by first | rfl | (simp only [bq, ifc_T, ifc_F, inr_m1, and_true, true_and, and_false, false_and, or_true, true_or, or_false, false_or, not_true_eq_false, not_false_eq_true, and_self, or_self, h1, t4, u5, l3, h6, h8, r9, t12, u13, l11, h14, r15]; done) | (simp [bq, ifc_T, ifc_F, inr_m1, h1, t4, u5, l3, h6, h8, r9, t12, u13, l11, h14, r15]; done) | ((try simp only [bq]); repeat (first | rfl | (refine eq_t ?_ ?_; focus (first | omega | assumption | (simp [inr_m1, h1, t4, u5, l3, h6, h8, r9, t12, u13, l11, h14, r15]; done) | (simp [inr_m1, h1, t4, u5, l3, h6, h8, r9, t12, u13, l11, h14, r15]; omega) | (simp only [u5, u13]; omega) | (clear hr; (try clear hkn); simp_all; done))) | (refine eq_f ?_ ?_; focus (first | omega | assumption | (simp [inr_m1, h1, t4, u5, l3, h6, h8, r9, t12, u13, l11, h14, r15]; done) | (simp [inr_m1, h1, t4, u5, l3, h6, h8, r9, t12, u13, l11, h14, r15]; omega) | (simp only [u5, u13]; omega) | (clear hr; (try clear hkn); simp_all; done))) | (simp only [t4, t12]; done) | (exfalso; clear hr; (try clear hkn); simp_all; done))))).trans (scC_self _)⟩, rfl, ⟨_, rfl⟩, rfl, rfl⟩)
        · -- nz ge 0
          refine v_iload_n dX8_row_23 rfl 3 rfl ?_
          refine v_bipush (v := 10) dX8_row_24 (by decide) ?_
          refine v_icmp_lt (tgt := 32) dX8_row_26 (by decide) (fun h16 => ?_) (fun h16 => ?_)
          · -- nz lt 10
            have r17 : inr nz 10 := inr_mk (by omega) h14 (Int32.not_le.mpr h16)
            -- inr nz 10
            obtain ⟨P18, rfl, l19, t20, u21⟩ := inr_ex r17 (by omega)
            refine v_aload_n dX8_row_32 rfl 0 rfl ?_
            refine v_get (v := .ref (g.1 + 23)) fa_X8_51 dX8_row_33 rfl (by decide) (ltn rfl) rfl ?_
            refine v_get (v := .ref (g.1 + 25)) fa_X8_77 dX8_row_36 rfl (by decide) (ltn rfl) rfl ?_
            refine v_iload_n dX8_row_39 rfl 1 rfl ?_
            refine v_iaload (len := 6) (j := P2) dX8_row_40 rfl (ltn rfl) rfl (by decide) rfl (by omega) ?_
            refine v_bipush (v := 6) dX8_row_41 (by decide) ?_
            refine v_icmp_eq (tgt := 49) dX8_row_43 (by decide) (fun h22 => ?_) (fun h22 => ?_)
            · -- I 25 P2 eq 6
              refine v_iconst (v := 4) dX8_row_49 (by decide) ?_
              refine v_iload_n dX8_row_50 rfl 1 rfl ?_
              refine v_imul dX8_row_51 ?_
              refine v_is (nx_mul rfl rfl) ?_
              refine v_iload_n dX8_row_52 rfl 2 rfl ?_
              refine v_iadd dX8_row_53 ?_
              refine v_is (nx_add rfl rfl) ?_
              refine v_istore (lv2 := [(4, .int (nI ((4 * P2) + P10))), (0, .ref (g.1 + 0)), (1, .int (nI P2)), (2, .int (nI P10)), (3, .int (nI P18))]) dX8_row_54 (by decide) rfl ?_
              refine v_aload_n dX8_row_56 rfl 1 rfl ?_
              refine v_get (v := .ref (g.1 + 23)) fa_X8_51 dX8_row_57 rfl (by decide) (ltn rfl) rfl ?_
              refine v_get (v := .ref (g.1 + 31)) fa_X8_125 dX8_row_60 rfl (by decide) (ltn rfl) rfl ?_
              refine v_iload dX8_row_63 0 rfl ?_
              refine v_iaload (len := 24) (j := ((4 * P2) + P10)) dX8_row_65 rfl (ltn rfl) rfl (by decide) rfl (by omega) ?_
              refine v_istore (lv2 := [(5, .int (I 31 ((4 * P2) + P10))), (4, .int (nI ((4 * P2) + P10))), (0, .ref (g.1 + 0)), (1, .int (nI P2)), (2, .int (nI P10)), (3, .int (nI P18))]) dX8_row_66 (by decide) rfl ?_
              refine v_aload_n dX8_row_68 rfl 2 rfl ?_
              refine v_get (v := .ref (g.1 + 23)) fa_X8_51 dX8_row_69 rfl (by decide) (ltn rfl) rfl ?_
              refine v_get (v := .ref (g.1 + 31)) fa_X8_125 dX8_row_72 rfl (by decide) (ltn rfl) rfl ?_
              refine v_iload dX8_row_75 1 rfl ?_
              refine v_iload_n dX8_row_77 rfl 5 rfl ?_
              refine v_iastore (len := 24) (j := ((4 * P2) + P10)) dX8_row_78 rfl (ltn rfl) rfl (by decide) rfl (by omega) ?_
              refine v_iload dX8_row_79 0 rfl ?_
              exact v_iret hr dX8_row_81 (⟨congrArg (fun z => some (Value.int z)) (by first | rfl | (simp only [bq, ifc_T, ifc_F, inr_m1, and_true, true_and, and_false, false_and, or_true, true_or, or_false, false_or, not_true_eq_false, not_false_eq_true, and_self, or_self, h1, t4, u5, l3, h6, h8, r9, t12, u13, l11, h14, h16, r17, t20, u21, l19, h22]; done) | (simp [bq, ifc_T, ifc_F, inr_m1, h1, t4, u5, l3, h6, h8, r9, t12, u13, l11, h14, h16, r17, t20, u21, l19, h22]; done) | ((try simp only [bq]); repeat (first | rfl | (refine eq_t ?_ ?_; focus (first | omega | assumption | (simp [inr_m1, h1, t4, u5, l3, h6, h8, r9, t12, u13, l11, h14, h16, r17, t20, u21, l19, h22]; done) | (simp [inr_m1, h1, t4, u5, l3, h6, h8, r9, t12, u13, l11, h14, h16, r17, t20, u21, l19, h22]; omega) | (simp only [u5, u13, u21]; omega) | (clear hr; (try clear hkn); simp_all; done))) | (refine eq_f ?_ ?_; focus (first | omega | assumption | (simp [inr_m1, h1, t4, u5, l3, h6, h8, r9, t12, u13, l11, h14, h16, r17, t20, u21, l19, h22]; done) | (simp [inr_m1, h1, t4, u5, l3, h6, h8, r9, t12, u13, l11, h14, h16, r17, t20, u21, l19, h22]; omega) | (simp only [u5, u13, u21]; omega) | (clear hr; (try clear hkn); simp_all; done))) | (simp only [t4, t12, t20]; done) | (exfalso; clear hr; (try clear hkn); simp_all; done)))), ⟨_, (show (wr I 31 ((4 * P2) + P10) (nI P18)) = _ from (by first | rfl | (simp only [bq, ifc_T, ifc_F, inr_m1, and_true, true_and, and_false, false_and, or_true, true_or, or_false, false_or, not_true_eq_false, not_false_eq_true, and_self, or_self, h1, t4, u5, l3, h6, h8, r9, t12, u13, l11, h14, h16, r17, t20, u21, l19, h22]; done) | (simp [bq, ifc_T, ifc_F, inr_m1, h1, t4, u5, l3, h6, h8, r9, t12, u13, l11, h14, h16, r17, t20, u21, l19, h22]; done) | ((try simp only [bq]); repeat (first | rfl | (refine eq_t ?_ ?_; focus (first | omega | assumption | (simp [inr_m1, h1, t4, u5, l3, h6, h8, r9, t12, u13, l11, h14, h16, r17, t20, u21, l19, h22]; done) | (simp [inr_m1, h1, t4, u5, l3, h6, h8, r9, t12, u13, l11, h14, h16, r17, t20, u21, l19, h22]; omega) | (simp only [u5, u13, u21]; omega) | (clear hr; (try clear hkn); simp_all; done))) | (refine eq_f ?_ ?_; focus (first | omega | assumption | (simp [inr_m1, h1, t4, u5, l3, h6, h8, r9, t12, u13, l11, h14, h16, r17, t20, u21, l19, h22]; done) | (simp [inr_m1, h1, t4, u5, l3, h6, h8, r9, t12, u13, l11, h14, h16, r17, t20, u21, l19, h22]; omega) | (simp only [u5, u13, u21]; omega) | (clear hr; (try clear hkn); simp_all; done))) | (simp only [t4, t12, t20]; done) | (exfalso; clear hr; (try clear hkn); simp_all; done))))).trans (scC_self _)⟩, rfl, ⟨_, rfl⟩, rfl, rfl⟩)
            · -- I 25 P2 ne 6
              refine v_bipush (v := (-3)) dX8_row_46 (by decide) ?_
              exact v_iret hr dX8_row_48 (⟨congrArg (fun z => some (Value.int z)) (by first | rfl | (simp only [bq, ifc_T, ifc_F, inr_m1, and_true, true_and, and_false, false_and, or_true, true_or, or_false, false_or, not_true_eq_false, not_false_eq_true, and_self, or_self, h1, t4, u5, l3, h6, h8, r9, t12, u13, l11, h14, h16, r17, t20, u21, l19, h22]; done) | (simp [bq, ifc_T, ifc_F, inr_m1, h1, t4, u5, l3, h6, h8, r9, t12, u13, l11, h14, h16, r17, t20, u21, l19, h22]; done) | ((try simp only [bq]); repeat (first | rfl | (refine eq_t ?_ ?_; focus (first | omega | assumption | (simp [inr_m1, h1, t4, u5, l3, h6, h8, r9, t12, u13, l11, h14, h16, r17, t20, u21, l19, h22]; done) | (simp [inr_m1, h1, t4, u5, l3, h6, h8, r9, t12, u13, l11, h14, h16, r17, t20, u21, l19, h22]; omega) | (simp only [u5, u13, u21]; omega) | (clear hr; (try clear hkn); simp_all; done))) | (refine eq_f ?_ ?_; focus (first | omega | assumption | (simp [inr_m1, h1, t4, u5, l3, h6, h8, r9, t12, u13, l11, h14, h16, r17, t20, u21, l19, h22]; done) | (simp [inr_m1, h1, t4, u5, l3, h6, h8, r9, t12, u13, l11, h14, h16, r17, t20, u21, l19, h22]; omega) | (simp only [u5, u13, u21]; omega) | (clear hr; (try clear hkn); simp_all; done))) | (simp only [t4, t12, t20]; done) | (exfalso; clear hr; (try clear hkn); simp_all; done)))), ⟨_, (show I = _ from (by first | rfl | (simp only [bq, ifc_T, ifc_F, inr_m1, and_true, true_and, and_false, false_and, or_true, true_or, or_false, false_or, not_true_eq_false, not_false_eq_true, and_self, or_self, h1, t4, u5, l3, h6, h8, r9, t12, u13, l11, h14, h16, r17, t20, u21, l19, h22]; done) | (simp [bq, ifc_T, ifc_F, inr_m1, h1, t4, u5, l3, h6, h8, r9, t12, u13, l11, h14, h16, r17, t20, u21, l19, h22]; done) | ((try simp only [bq]); repeat (first | rfl | (refine eq_t ?_ ?_; focus (first | omega | assumption | (simp [inr_m1, h1, t4, u5, l3, h6, h8, r9, t12, u13, l11, h14, h16, r17, t20, u21, l19, h22]; done) | (simp [inr_m1, h1, t4, u5, l3, h6, h8, r9, t12, u13, l11, h14, h16, r17, t20, u21, l19, h22]; omega) | (simp only [u5, u13, u21]; omega) | (clear hr; (try clear hkn); simp_all; done))) | (refine eq_f ?_ ?_; focus (first | omega | assumption | (simp [inr_m1, h1, t4, u5, l3, h6, h8, r9, t12, u13, l11, h14, h16, r17, t20, u21, l19, h22]; done) | (simp [inr_m1, h1, t4, u5, l3, h6, h8, r9, t12, u13, l11, h14, h16, r17, t20, u21, l19, h22]; omega) | (simp only [u5, u13, u21]; omega) | (clear hr; (try clear hkn); simp_all; done))) | (simp only [t4, t12, t20]; done) | (exfalso; clear hr; (try clear hkn); simp_all; done))))).trans (scC_self _)⟩, rfl, ⟨_, rfl⟩, rfl, rfl⟩)
          · -- nz ge 10
            have r23 : ¬ inr nz 10 := inr_hi (by omega) (Int32.not_lt.mp h16)
            -- not inr nz 10
            refine v_bipush (v := (-2)) dX8_row_29 (by decide) ?_
            exact v_iret hr dX8_row_31 (⟨congrArg (fun z => some (Value.int z)) (by first | rfl | (simp only [bq, ifc_T, ifc_F, inr_m1, and_true, true_and, and_false, false_and, or_true, true_or, or_false, false_or, not_true_eq_false, not_false_eq_true, and_self, or_self, h1, t4, u5, l3, h6, h8, r9, t12, u13, l11, h14, h16, r23]; done) | (simp [bq, ifc_T, ifc_F, inr_m1, h1, t4, u5, l3, h6, h8, r9, t12, u13, l11, h14, h16, r23]; done) | ((try simp only [bq]); repeat (first | rfl | (refine eq_t ?_ ?_; focus (first | omega | assumption | (simp [inr_m1, h1, t4, u5, l3, h6, h8, r9, t12, u13, l11, h14, h16, r23]; done) | (simp [inr_m1, h1, t4, u5, l3, h6, h8, r9, t12, u13, l11, h14, h16, r23]; omega) | (simp only [u5, u13]; omega) | (clear hr; (try clear hkn); simp_all; done))) | (refine eq_f ?_ ?_; focus (first | omega | assumption | (simp [inr_m1, h1, t4, u5, l3, h6, h8, r9, t12, u13, l11, h14, h16, r23]; done) | (simp [inr_m1, h1, t4, u5, l3, h6, h8, r9, t12, u13, l11, h14, h16, r23]; omega) | (simp only [u5, u13]; omega) | (clear hr; (try clear hkn); simp_all; done))) | (simp only [t4, t12]; done) | (exfalso; clear hr; (try clear hkn); simp_all; done)))), ⟨_, (show I = _ from (by first | rfl | (simp only [bq, ifc_T, ifc_F, inr_m1, and_true, true_and, and_false, false_and, or_true, true_or, or_false, false_or, not_true_eq_false, not_false_eq_true, and_self, or_self, h1, t4, u5, l3, h6, h8, r9, t12, u13, l11, h14, h16, r23]; done) | (simp [bq, ifc_T, ifc_F, inr_m1, h1, t4, u5, l3, h6, h8, r9, t12, u13, l11, h14, h16, r23]; done) | ((try simp only [bq]); repeat (first | rfl | (refine eq_t ?_ ?_; focus (first | omega | assumption | (simp [inr_m1, h1, t4, u5, l3, h6, h8, r9, t12, u13, l11, h14, h16, r23]; done) | (simp [inr_m1, h1, t4, u5, l3, h6, h8, r9, t12, u13, l11, h14, h16, r23]; omega) | (simp only [u5, u13]; omega) | (clear hr; (try clear hkn); simp_all; done))) | (refine eq_f ?_ ?_; focus (first | omega | assumption | (simp [inr_m1, h1, t4, u5, l3, h6, h8, r9, t12, u13, l11, h14, h16, r23]; done) | (simp [inr_m1, h1, t4, u5, l3, h6, h8, r9, t12, u13, l11, h14, h16, r23]; omega) | (simp only [u5, u13]; omega) | (clear hr; (try clear hkn); simp_all; done))) | (simp only [t4, t12]; done) | (exfalso; clear hr; (try clear hkn); simp_all; done))))).trans (scC_self _)⟩, rfl, ⟨_, rfl⟩, rfl, rfl⟩)
      · -- qz ge 4
        have r24 : ¬ inr qz 4 := inr_hi (by omega) (Int32.not_lt.mp h8)
        -- not inr qz 4
        refine v_iconst (v := (-1)) dX8_row_17 (by decide) ?_
        exact v_iret hr dX8_row_18 (⟨congrArg (fun z => some (Value.int z)) (by first | rfl | (simp only [bq, ifc_T, ifc_F, inr_m1, and_true, true_and, and_false, false_and, or_true, true_or, or_false, false_or, not_true_eq_false, not_false_eq_true, and_self, or_self, h1, t4, u5, l3, h6, h8, r24]; done) | (simp [bq, ifc_T, ifc_F, inr_m1, h1, t4, u5, l3, h6, h8, r24]; done) | ((try simp only [bq]); repeat (first | rfl | (refine eq_t ?_ ?_; focus (first | omega | assumption | (simp [inr_m1, h1, t4, u5, l3, h6, h8, r24]; done) | (simp [inr_m1, h1, t4, u5, l3, h6, h8, r24]; omega) | (simp only [u5]; omega) | (clear hr; (try clear hkn); simp_all; done))) | (refine eq_f ?_ ?_; focus (first | omega | assumption | (simp [inr_m1, h1, t4, u5, l3, h6, h8, r24]; done) | (simp [inr_m1, h1, t4, u5, l3, h6, h8, r24]; omega) | (simp only [u5]; omega) | (clear hr; (try clear hkn); simp_all; done))) | (simp only [t4]; done) | (exfalso; clear hr; (try clear hkn); simp_all; done)))), ⟨_, (show I = _ from (by first | rfl | (simp only [bq, ifc_T, ifc_F, inr_m1, and_true, true_and, and_false, false_and, or_true, true_or, or_false, false_or, not_true_eq_false, not_false_eq_true, and_self, or_self, h1, t4, u5, l3, h6, h8, r24]; done) | (simp [bq, ifc_T, ifc_F, inr_m1, h1, t4, u5, l3, h6, h8, r24]; done) | ((try simp only [bq]); repeat (first | rfl | (refine eq_t ?_ ?_; focus (first | omega | assumption | (simp [inr_m1, h1, t4, u5, l3, h6, h8, r24]; done) | (simp [inr_m1, h1, t4, u5, l3, h6, h8, r24]; omega) | (simp only [u5]; omega) | (clear hr; (try clear hkn); simp_all; done))) | (refine eq_f ?_ ?_; focus (first | omega | assumption | (simp [inr_m1, h1, t4, u5, l3, h6, h8, r24]; done) | (simp [inr_m1, h1, t4, u5, l3, h6, h8, r24]; omega) | (simp only [u5]; omega) | (clear hr; (try clear hkn); simp_all; done))) | (simp only [t4]; done) | (exfalso; clear hr; (try clear hkn); simp_all; done))))).trans (scC_self _)⟩, rfl, ⟨_, rfl⟩, rfl, rfl⟩)
