/-- the reader's own fields and steps -/
def rI (I : Ty) (a sc nu fa : Int32) (st : Nat → Int32) : Ty := fun x => if x = 15 then (fun j => if j = 1 then a else if j = 4 then sc else if j = 5 then nu else if j = 6 then fa else I 15 j) else if x = 17 then st else I x
theorem rI_self (I : Ty) : I = rI I (I 15 1) (I 15 4) (I 15 5) (I 15 6) (I 17) := by
  funext x; unfold rI
  by_cases h : x = 15
  · subst h; rw [if_pos rfl]; funext j
    split
    · next h => rw [h]
    split
    · next h => rw [h]
    split
    · next h => rw [h]
    split
    · next h => rw [h]
    rfl
  · rw [if_neg h]
    split
    · next h => rw [h]
    rfl
section
variable (I : Ty) (a sc nu fa : Int32) (st : Nat → Int32) (v : Int32)
theorem rI_a : wr (rI I a sc nu fa st) 15 1 v = rI I v sc nu fa st := by
  funext x
  show va_up (rI I a sc nu fa st) 15 (va_up (rI I a sc nu fa st 15) 1 v) x = _
  by_cases e : x = 15
  · subst e; rw [up_at]; funext j
    by_cases ej : j = 1
    · subst ej; rw [up_at]; rfl
    · rw [up_off _ _ ej]; unfold rI; simp [ej]
  · rw [up_off _ _ e]; unfold rI; rw [if_neg e, if_neg e]
theorem rI_sc : wr (rI I a sc nu fa st) 15 4 v = rI I a v nu fa st := by
  funext x
  show va_up (rI I a sc nu fa st) 15 (va_up (rI I a sc nu fa st 15) 4 v) x = _
  by_cases e : x = 15
  · subst e; rw [up_at]; funext j
    by_cases ej : j = 4
    · subst ej; rw [up_at]; rfl
    · rw [up_off _ _ ej]; unfold rI; simp [ej]
  · rw [up_off _ _ e]; unfold rI; rw [if_neg e, if_neg e]
theorem rI_nu : wr (rI I a sc nu fa st) 15 5 v = rI I a sc v fa st := by
  funext x
  show va_up (rI I a sc nu fa st) 15 (va_up (rI I a sc nu fa st 15) 5 v) x = _
  by_cases e : x = 15
  · subst e; rw [up_at]; funext j
    by_cases ej : j = 5
    · subst ej; rw [up_at]; rfl
    · rw [up_off _ _ ej]; unfold rI; simp [ej]
  · rw [up_off _ _ e]; unfold rI; rw [if_neg e, if_neg e]
theorem rI_fa : wr (rI I a sc nu fa st) 15 6 v = rI I a sc nu v st := by
  funext x
  show va_up (rI I a sc nu fa st) 15 (va_up (rI I a sc nu fa st 15) 6 v) x = _
  by_cases e : x = 15
  · subst e; rw [up_at]; funext j
    by_cases ej : j = 6
    · subst ej; rw [up_at]; rfl
    · rw [up_off _ _ ej]; unfold rI; simp [ej]
  · rw [up_off _ _ e]; unfold rI; rw [if_neg e, if_neg e]
theorem rI_st (k : Nat) : wr (rI I a sc nu fa st) 17 k v = rI I a sc nu fa (va_up st k v) := by
  funext x
  show va_up (rI I a sc nu fa st) 17 (va_up (rI I a sc nu fa st 17) k v) x = _
  by_cases e : x = 17
  · subst e; rw [up_at]; rfl
  · rw [up_off _ _ e]; unfold rI; by_cases h : x = 15
    · subst h; rfl
    · simp [e, h]
end
noncomputable def ccd (z : Tk) : Int32 := ifc (z.1 = 0) (((z.2.2.2 <<< (3 &&& 31) ||| z.2.1) <<< (4 &&& 31)) ||| (4 + z.2.2.1)) (ifc (z.1 = 1) (((0 : Int32) <<< (4 &&& 31)) ||| 0) (ifc (z.1 = 2) (((0 : Int32) <<< (4 &&& 31)) ||| 1) (((0 : Int32) <<< (4 &&& 31)) ||| 2)))
set_option maxRecDepth 100000 in
set_option maxHeartbeats 400000 in
theorem c_X4_sign {g : Gl} {I : Ty} {L : TL} {na nt ni m : Nat} {nl : Nat → Nat}  (az sz : Nat) (nu fa : Int32) (st : Nat → Int32) (fd : Nat) (hf : fd ≤ 100) (hfd : I 15 0 = nI fd) (tx : Nat → Int32) (htx : I 16 = tx) (ha : az ≤ 1000) : Ct g yX4_sign cX4_sign 1 (some .int) 0 0 0 [.ref (g.1 + 15)] (rI I (nI az) (nI sz) nu fa st) L (RT na nt ni) (NT nl) (NB + m) (Ps (some (.int (nxt tx fd az))) (rI I (nI az) (nI sz) nu fa st) L (RT na nt ni) (NT nl) (NB + m)) := by
  refine ct_of (by decide +kernel) (Nat.le_of_ble_eq_true rfl) (fun F hnm hr => ?_)
  clear hnm
  show V g F cX4_sign RX4 1 0 0 [(0, .ref (g.1 + 15))] [] (rI I (nI az) (nI sz) nu fa st) L (RT na nt ni) (NT nl) (NB + m) 0 0
  refine v_aload_n dX4_sign_0 rfl 0 rfl ?_
  refine v_get (v := .int ((rI I (nI az) (nI sz) nu fa st) 15 1)) fa_X4_20 dX4_sign_1 rfl (by decide) (ltn rfl) rfl ?_
  refine v_is (y := nI az) (by rfl) ?_
  refine v_aload_n dX4_sign_4 rfl 0 rfl ?_
  refine v_get (v := .int ((rI I (nI az) (nI sz) nu fa st) 15 0)) fa_X4_16 dX4_sign_5 rfl (by decide) (ltn rfl) rfl ?_
  refine v_is (y := nI fd) (by exact hfd) ?_
  refine v_icmp_geN (a := az) (b := fd) (tgt := 23) dX4_sign_8 (by decide) rfl rfl (by omega) (by omega) (fun h1 => ?_) (fun h1 => ?_)
  · -- az ge fd
    refine v_iconst (v := (-1)) dX4_sign_23 (by decide) ?_
    exact v_iret hr dX4_sign_24 (psi (by first | rfl | (simp only [bq, ifc_T, ifc_F, inr_m1, and_true, true_and, and_false, false_and, or_true, true_or, or_false, false_or, not_true_eq_false, not_false_eq_true, and_self, or_self, h1, nxt]; done) | (simp [bq, ifc_T, ifc_F, inr_m1, h1, nxt]; done) | ((try simp only [bq, nxt]); repeat (first | rfl | (refine eq_t ?_ ?_; focus (first | omega | assumption | (simp [inr_m1, h1]; done) | (simp [inr_m1, h1]; omega) | (clear hr; (try clear hkn); simp_all; done))) | (refine eq_f ?_ ?_; focus (first | omega | assumption | (simp [inr_m1, h1]; done) | (simp [inr_m1, h1]; omega) | (clear hr; (try clear hkn); simp_all; done))) | (exfalso; clear hr; (try clear hkn); simp_all; done)))) (by first | rfl | (simp only [bq, ifc_T, ifc_F, inr_m1, and_true, true_and, and_false, false_and, or_true, true_or, or_false, false_or, not_true_eq_false, not_false_eq_true, and_self, or_self, h1, nxt]; done) | (simp [bq, ifc_T, ifc_F, inr_m1, h1, nxt]; done) | ((try simp only [bq, nxt]); repeat (first | rfl | (refine eq_t ?_ ?_; focus (first | omega | assumption | (simp [inr_m1, h1]; done) | (simp [inr_m1, h1]; omega) | (clear hr; (try clear hkn); simp_all; done))) | (refine eq_f ?_ ?_; focus (first | omega | assumption | (simp [inr_m1, h1]; done) | (simp [inr_m1, h1]; omega) | (clear hr; (try clear hkn); simp_all; done))) | (exfalso; clear hr; (try clear hkn); simp_all; done)))))
  · -- az lt fd
    refine v_aload_n dX4_sign_11 rfl 0 rfl ?_
    refine v_get (v := .ref (g.1 + 16)) fa_X4_9 dX4_sign_12 rfl (by decide) (ltn rfl) rfl ?_
    refine v_aload_n dX4_sign_15 rfl 0 rfl ?_
    refine v_get (v := .int ((rI I (nI az) (nI sz) nu fa st) 15 1)) fa_X4_20 dX4_sign_16 rfl (by decide) (ltn rfl) rfl ?_
    refine v_is (y := nI az) (by rfl) ?_
    refine v_iaload (len := 100) (j := az) dX4_sign_19 rfl (ltn rfl) rfl (by decide) rfl (by omega) ?_
    refine v_is (y := tx az) (by exact congrFun htx _) ?_
    refine v_goto (tgt := 24) dX4_sign_20 (by decide) ?_
    exact v_iret hr dX4_sign_24 (psi (by first | rfl | (simp only [bq, ifc_T, ifc_F, inr_m1, and_true, true_and, and_false, false_and, or_true, true_or, or_false, false_or, not_true_eq_false, not_false_eq_true, and_self, or_self, h1, nxt]; done) | (simp [bq, ifc_T, ifc_F, inr_m1, h1, nxt]; done) | ((try simp only [bq, nxt]); repeat (first | rfl | (refine eq_t ?_ ?_; focus (first | omega | assumption | (simp [inr_m1, h1]; done) | (simp [inr_m1, h1]; omega) | (clear hr; (try clear hkn); simp_all; done))) | (refine eq_f ?_ ?_; focus (first | omega | assumption | (simp [inr_m1, h1]; done) | (simp [inr_m1, h1]; omega) | (clear hr; (try clear hkn); simp_all; done))) | (exfalso; clear hr; (try clear hkn); simp_all; done)))) (by first | rfl | (simp only [bq, ifc_T, ifc_F, inr_m1, and_true, true_and, and_false, false_and, or_true, true_or, or_false, false_or, not_true_eq_false, not_false_eq_true, and_self, or_self, h1, nxt]; done) | (simp [bq, ifc_T, ifc_F, inr_m1, h1, nxt]; done) | ((try simp only [bq, nxt]); repeat (first | rfl | (refine eq_t ?_ ?_; focus (first | omega | assumption | (simp [inr_m1, h1]; done) | (simp [inr_m1, h1]; omega) | (clear hr; (try clear hkn); simp_all; done))) | (refine eq_f ?_ ?_; focus (first | omega | assumption | (simp [inr_m1, h1]; done) | (simp [inr_m1, h1]; omega) | (clear hr; (try clear hkn); simp_all; done))) | (exfalso; clear hr; (try clear hkn); simp_all; done)))))
set_option maxRecDepth 100000 in
set_option maxHeartbeats 400000 in
theorem c_X4_takeSign {g : Gl} {I : Ty} {L : TL} {na nt ni m : Nat} {nl : Nat → Nat} (cz : Int32) (az sz : Nat) (nu fa : Int32) (st : Nat → Int32) (fd : Nat) (hf : fd ≤ 100) (hfd : I 15 0 = nI fd) (tx : Nat → Int32) (htx : I 16 = tx) (ha : az ≤ 1000) : Ct g yX4_takeSign cX4_takeSign 2 (some .boolean) 1 0 0 [.ref (g.1 + 15), .int cz] (rI I (nI az) (nI sz) nu fa st) L (RT na nt ni) (NT nl) (NB + m) (Ps (some (.int (bq (nxt tx fd az = cz)))) (rI I (nI (ifc (nxt tx fd az = cz) (az + 1) az)) (nI sz) nu fa st) L (RT na nt ni) (NT nl) (NB + m)) := by
  refine ct_of (by decide +kernel) (Nat.le_of_ble_eq_true rfl) (fun F hnm hr => ?_)
  clear hnm
  show V g F cX4_takeSign RX4 2 1 0 [(0, .ref (g.1 + 15)), (1, .int cz)] [] (rI I (nI az) (nI sz) nu fa st) L (RT na nt ni) (NT nl) (NB + m) 0 0
  refine v_aload_n dX4_takeSign_0 rfl 0 rfl ?_
  refine v_callVi (As := []) (rest := []) lk_X4_48 (c_X4_sign az sz nu fa st fd hf hfd tx htx (by omega)) dX4_takeSign_1 rfl (ltn rfl) rfl rfl (Nat.le_of_ble_eq_true rfl) (by decide) ?_
  refine v_iload_n dX4_takeSign_4 rfl 1 rfl ?_
  refine v_icmp_eq (tgt := 10) dX4_takeSign_5 (by decide) (fun h2 => ?_) (fun h2 => ?_)
  · refine v_aload_n dX4_takeSign_10 rfl 0 rfl ?_
    refine v_dup dX4_takeSign_11 rfl ?_
    refine v_get (v := .int ((rI I (nI az) (nI sz) nu fa st) 15 1)) fa_X4_20 dX4_takeSign_12 rfl (by decide) (ltn rfl) rfl ?_
    refine v_is (y := nI az) (by rfl) ?_
    refine v_iconst (v := 1) dX4_takeSign_15 (by decide) ?_
    refine v_iadd dX4_takeSign_16 ?_
    refine v_is (nx_add rfl rfl) ?_
    refine v_puti pa_X4_20 dX4_takeSign_17 rfl (by decide) (ltn rfl) (by show 1 < 7; decide) rfl ?_
    refine v_iconst (v := 1) dX4_takeSign_20 (by decide) ?_
    exact v_zret hr dX4_takeSign_21 (by first | rfl | exact nbq) (⟨congrArg (fun z => some (Value.int z)) (by rw [bq_t h2]), (by rw [ifc_t h2]; simp only [rI_a, rI_sc, rI_nu, rI_fa, rI_st]), rfl, rfl, rfl, rfl⟩)
  · refine v_iconst (v := 0) dX4_takeSign_8 (by decide) ?_
    exact v_zret hr dX4_takeSign_9 (by first | rfl | exact nbq) (⟨congrArg (fun z => some (Value.int z)) (by rw [bq_f h2]), (by rw [ifc_f h2]), rfl, rfl, rfl, rfl⟩)
set_option maxRecDepth 100000 in
set_option maxHeartbeats 400000 in
theorem c_X4_isDigit {g : Gl} {I : Ty} {L : TL} {na nt ni m : Nat} {nl : Nat → Nat} (xz : Int32)  : Ct g yX4_isDigit cX4_isDigit 1 (some .boolean) 0 0 0 [.int xz] I L (RT na nt ni) (NT nl) (NB + m) (Ps (some (.int (bq (digP xz)))) I L (RT na nt ni) (NT nl) (NB + m)) := by
  refine ct_of (by decide +kernel) (Nat.le_of_ble_eq_true rfl) (fun F hnm hr => ?_)
  clear hnm
  show V g F cX4_isDigit RX4 1 0 0 [(0, .int xz)] [] I L (RT na nt ni) (NT nl) (NB + m) 0 0
  refine v_iload_n dX4_isDigit_0 rfl 0 rfl ?_
  refine v_bipush (v := 48) dX4_isDigit_1 (by decide) ?_
  refine v_icmp_lt (tgt := 16) dX4_isDigit_3 (by decide) (fun h2 => ?_) (fun h2 => ?_)
  · refine v_iconst (v := 0) dX4_isDigit_16 (by decide) ?_
    exact v_zret hr dX4_isDigit_17 (by first | rfl | exact nbq) (psi (bq_f (fun q => absurd h2 (Int32.not_lt.mpr q.1))).symm rfl)
  · refine v_iload_n dX4_isDigit_6 rfl 0 rfl ?_
    refine v_bipush (v := 57) dX4_isDigit_7 (by decide) ?_
    refine v_icmp_gt (tgt := 16) dX4_isDigit_9 (by decide) (fun h4 => ?_) (fun h4 => ?_)
    · refine v_iconst (v := 0) dX4_isDigit_16 (by decide) ?_
      exact v_zret hr dX4_isDigit_17 (by first | rfl | exact nbq) (psi (bq_f (fun q => absurd h4 (Int32.not_lt.mpr q.2))).symm rfl)
    · refine v_iconst (v := 1) dX4_isDigit_12 (by decide) ?_
      refine v_goto (tgt := 17) dX4_isDigit_13 (by decide) ?_
      exact v_zret hr dX4_isDigit_17 (by first | rfl | exact nbq) (psi (bq_t ⟨Int32.not_lt.mp h2, Int32.not_lt.mp h4⟩).symm rfl)
theorem d1V_e (tx : Nat → Int32) (fd a : Nat) : nxt tx fd a - 48 = d1V tx fd a := by
  unfold d1V
  rw [show (10 : Int32) * 0 = 0 by decide, Int32.zero_add]
theorem d2V_e (tx : Nat → Int32) (fd a : Nat) : 10 * (nxt tx fd a - 48) + nxt tx fd (a + 1) - 48 = d2V tx fd a := by unfold d2V; rw [d1V_e]
set_option maxRecDepth 100000 in
set_option maxHeartbeats 400000 in
theorem c_X4_parseNumber {g : Gl} {I : Ty} {L : TL} {na nt ni m : Nat} {nl : Nat → Nat}  (az sz : Nat) (nu fa : Int32) (st : Nat → Int32) (fd : Nat) (hf : fd ≤ 100) (hfd : I 15 0 = nI fd) (tx : Nat → Int32) (htx : I 16 = tx) (ha : az ≤ 900) : Ct g yX4_parseNumber cX4_parseNumber 1 (some .boolean) 1 0 0 [.ref (g.1 + 15)] (rI I (nI az) (nI sz) nu fa st) L (RT na nt ni) (NT nl) (NB + m) (Ps (some (.int (bq (digP (nxt tx fd az))))) (rI I (nI (tnA tx fd az)) (nI sz) (tnD tx fd az nu) fa st) L (RT na nt ni) (NT nl) (NB + m)) := by
  refine ct_of (by decide +kernel) (Nat.le_of_ble_eq_true rfl) (fun F hnm hr => ?_)
  clear hnm
  show V g F cX4_parseNumber RX4 1 1 0 [(0, .ref (g.1 + 15))] [] (rI I (nI az) (nI sz) nu fa st) L (RT na nt ni) (NT nl) (NB + m) 0 0
  refine v_aload_n dX4_parseNumber_0 rfl 0 rfl ?_
  refine v_callVi (As := []) (rest := []) lk_X4_48 (c_X4_sign az sz nu fa st fd hf hfd tx htx (by omega)) dX4_parseNumber_1 rfl (ltn rfl) rfl rfl (Nat.le_of_ble_eq_true rfl) (by decide) ?_
  refine v_callSi (As := [.int (nxt tx fd az)]) (rest := []) lk_X4_90 (c_X4_isDigit (I := (rI I (nI az) (nI sz) nu fa st)) (nxt tx fd az)) dX4_parseNumber_4 rfl rfl (Nat.le_of_ble_eq_true rfl) (by decide) ?_
  refine v_ifb_ne (tgt := 12) dX4_parseNumber_7 (by decide) (fun h1 => ?_) (fun h1 => ?_)
  · -- (digP (nxt tx fd az))
    refine v_aload_n dX4_parseNumber_12 rfl 0 rfl ?_
    refine v_aload_n dX4_parseNumber_13 rfl 0 rfl ?_
    refine v_callVi (As := []) (rest := [.ref (g.1 + 15)]) lk_X4_48 (c_X4_sign az sz nu fa st fd hf hfd tx htx (by omega)) dX4_parseNumber_14 rfl (ltn rfl) rfl rfl (Nat.le_of_ble_eq_true rfl) (by decide) ?_
    refine v_bipush (v := 48) dX4_parseNumber_17 (by decide) ?_
    refine v_isub dX4_parseNumber_19 ?_
    refine v_puti pa_X4_61 dX4_parseNumber_20 rfl (by decide) (ltn rfl) (by show 5 < 7; decide) rfl ?_
    refine v_aload_n dX4_parseNumber_23 rfl 0 rfl ?_
    refine v_dup dX4_parseNumber_24 rfl ?_
    refine v_get (v := .int ((rI I (nI az) (nI sz) nu fa st) 15 1)) fa_X4_20 dX4_parseNumber_25 rfl (by decide) (ltn rfl) rfl ?_
    refine v_is (y := nI az) (by rfl) ?_
    refine v_iconst (v := 1) dX4_parseNumber_28 (by decide) ?_
    refine v_iadd dX4_parseNumber_29 ?_
    refine v_is (nx_add rfl rfl) ?_
    refine v_puti pa_X4_20 dX4_parseNumber_30 rfl (by decide) (ltn rfl) (by show 1 < 7; decide) rfl ?_
    refine v_I (I2 := (rI I (nI (az + 1)) (nI sz) (nxt tx fd az - 48) fa st)) (by first | rfl | (simp only [rI_a, rI_sc, rI_nu, rI_fa, rI_st]; done)) ?_
    refine v_aload_n dX4_parseNumber_33 rfl 0 rfl ?_
    refine v_callVi (As := []) (rest := []) lk_X4_48 (c_X4_sign (az + 1) sz (nxt tx fd az - 48) fa st fd hf hfd tx htx (by omega)) dX4_parseNumber_34 rfl (ltn rfl) rfl rfl (Nat.le_of_ble_eq_true rfl) (by decide) ?_
    refine v_callSi (As := [.int (nxt tx fd (az + 1))]) (rest := []) lk_X4_90 (c_X4_isDigit (I := (rI I (nI (az + 1)) (nI sz) (nxt tx fd az - 48) fa st)) (nxt tx fd (az + 1))) dX4_parseNumber_37 rfl rfl (Nat.le_of_ble_eq_true rfl) (by decide) ?_
    refine v_ifb_eq (tgt := 72) dX4_parseNumber_40 (by decide) (fun h2 => ?_) (fun h2 => ?_)
    · -- not (digP (nxt tx fd (az + 1)))
      refine v_iconst (v := 1) dX4_parseNumber_72 (by decide) ?_
      exact v_zret hr dX4_parseNumber_73 (by first | rfl | exact nbq) (⟨congrArg (fun z => some (Value.int z)) (by rw [bq_t h1]), (by unfold tnA tnD; simp only [ifc_t h1, ifc_f h2, d1V_e, d2V_e]; try rfl), rfl, rfl, rfl, rfl⟩)
    · -- (digP (nxt tx fd (az + 1)))
      refine v_aload_n dX4_parseNumber_43 rfl 0 rfl ?_
      refine v_bipush (v := 10) dX4_parseNumber_44 (by decide) ?_
      refine v_aload_n dX4_parseNumber_46 rfl 0 rfl ?_
      refine v_get (v := .int ((rI I (nI (az + 1)) (nI sz) (nxt tx fd az - 48) fa st) 15 5)) fa_X4_61 dX4_parseNumber_47 rfl (by decide) (ltn rfl) rfl ?_
      refine v_is (y := (nxt tx fd az - 48)) (by rfl) ?_
      refine v_imul dX4_parseNumber_50 ?_
      refine v_aload_n dX4_parseNumber_51 rfl 0 rfl ?_
      refine v_callVi (As := []) (rest := [.int (10 * (nxt tx fd az - 48)), .ref (g.1 + 15)]) lk_X4_48 (c_X4_sign (az + 1) sz (nxt tx fd az - 48) fa st fd hf hfd tx htx (by omega)) dX4_parseNumber_52 rfl (ltn rfl) rfl rfl (Nat.le_of_ble_eq_true rfl) (by decide) ?_
      refine v_iadd dX4_parseNumber_55 ?_
      refine v_bipush (v := 48) dX4_parseNumber_56 (by decide) ?_
      refine v_isub dX4_parseNumber_58 ?_
      refine v_puti pa_X4_61 dX4_parseNumber_59 rfl (by decide) (ltn rfl) (by show 5 < 7; decide) rfl ?_
      refine v_aload_n dX4_parseNumber_62 rfl 0 rfl ?_
      refine v_dup dX4_parseNumber_63 rfl ?_
      refine v_get (v := .int ((rI I (nI (az + 1)) (nI sz) (nxt tx fd az - 48) fa st) 15 1)) fa_X4_20 dX4_parseNumber_64 rfl (by decide) (ltn rfl) rfl ?_
      refine v_is (y := nI (az + 1)) (by rfl) ?_
      refine v_iconst (v := 1) dX4_parseNumber_67 (by decide) ?_
      refine v_iadd dX4_parseNumber_68 ?_
      refine v_is (nx_add rfl rfl) ?_
      refine v_puti pa_X4_20 dX4_parseNumber_69 rfl (by decide) (ltn rfl) (by show 1 < 7; decide) rfl ?_
      refine v_I (I2 := (rI I (nI (az + 1 + 1)) (nI sz) (10 * (nxt tx fd az - 48) + nxt tx fd (az + 1) - 48) fa st)) (by first | rfl | (simp only [rI_a, rI_sc, rI_nu, rI_fa, rI_st]; done)) ?_
      refine v_iconst (v := 1) dX4_parseNumber_72 (by decide) ?_
      exact v_zret hr dX4_parseNumber_73 (by first | rfl | exact nbq) (⟨congrArg (fun z => some (Value.int z)) (by rw [bq_t h1]), (by unfold tnA tnD; simp only [ifc_t h1, ifc_t h2, d1V_e, d2V_e]; try rfl), rfl, rfl, rfl, rfl⟩)
  · -- not (digP (nxt tx fd az))
    refine v_iconst (v := 0) dX4_parseNumber_10 (by decide) ?_
    exact v_zret hr dX4_parseNumber_11 (by first | rfl | exact nbq) (⟨congrArg (fun z => some (Value.int z)) (by rw [bq_f h1]), (by unfold tnA tnD; simp only [ifc_f h1, d1V_e, d2V_e]; try rfl), rfl, rfl, rfl, rfl⟩)
set_option maxRecDepth 100000 in
set_option maxHeartbeats 400000 in
theorem c_X4_addStep {g : Gl} {I : Ty} {L : TL} {na nt ni m : Nat} {nl : Nat → Nat} (kz : Int32) (oz : Int32) (az sz : Nat) (nu fa : Int32) (st : Nat → Int32) (fd : Nat) (hf : fd ≤ 100) (hfd : I 15 0 = nI fd) (tx : Nat → Int32) (htx : I 16 = tx) (hs : sz < 100) : Ct g yX4_addStep cX4_addStep 3 none 0 0 0 [.ref (g.1 + 15), .int kz, .int oz] (rI I (nI az) (nI sz) nu fa st) L (RT na nt ni) (NT nl) (NB + m) (Ps none (rI I (nI az) (nI (sz + 1)) nu fa (va_up st sz ((oz <<< (4 &&& 31)) ||| kz))) L (RT na nt ni) (NT nl) (NB + m)) := by
  refine ct_of (by decide +kernel) (Nat.le_of_ble_eq_true rfl) (fun F hnm hr => ?_)
  clear hnm
  show V g F cX4_addStep RX4 3 0 0 [(0, .ref (g.1 + 15)), (1, .int kz), (2, .int oz)] [] (rI I (nI az) (nI sz) nu fa st) L (RT na nt ni) (NT nl) (NB + m) 0 0
  refine v_aload_n dX4_addStep_0 rfl 0 rfl ?_
  refine v_get (v := .int ((rI I (nI az) (nI sz) nu fa st) 15 4)) fa_X4_23 dX4_addStep_1 rfl (by decide) (ltn rfl) rfl ?_
  refine v_is (y := nI sz) (by rfl) ?_
  refine v_bipush (v := 100) dX4_addStep_4 (by decide) ?_
  refine v_icmp_geN (a := sz) (b := 100) (tgt := 33) dX4_addStep_6 (by decide) rfl rfl (by omega) (by omega) (fun h => by exfalso; omega) (fun h1 => ?_)
  refine v_aload_n dX4_addStep_9 rfl 0 rfl ?_
  refine v_get (v := .ref (g.1 + 17)) fa_X4_13 dX4_addStep_10 rfl (by decide) (ltn rfl) rfl ?_
  refine v_aload_n dX4_addStep_13 rfl 0 rfl ?_
  refine v_get (v := .int ((rI I (nI az) (nI sz) nu fa st) 15 4)) fa_X4_23 dX4_addStep_14 rfl (by decide) (ltn rfl) rfl ?_
  refine v_is (y := nI sz) (by rfl) ?_
  refine v_iload_n dX4_addStep_17 rfl 2 rfl ?_
  refine v_iconst (v := 4) dX4_addStep_18 (by decide) ?_
  refine v_ishl dX4_addStep_19 ?_
  refine v_iload_n dX4_addStep_20 rfl 1 rfl ?_
  refine v_ior dX4_addStep_21 ?_
  refine v_iastore (len := 100) (j := sz) dX4_addStep_22 rfl (ltn rfl) rfl (by decide) rfl (by omega) ?_
  refine v_aload_n dX4_addStep_23 rfl 0 rfl ?_
  refine v_dup dX4_addStep_24 rfl ?_
  refine v_get (v := .int ((rI I (nI az) (nI sz) nu fa st) 15 4)) fa_X4_23 dX4_addStep_25 rfl (by decide) (ltn rfl) rfl ?_
  refine v_is (y := nI sz) (by rfl) ?_
  refine v_iconst (v := 1) dX4_addStep_28 (by decide) ?_
  refine v_iadd dX4_addStep_29 ?_
  refine v_is (nx_add rfl rfl) ?_
  refine v_puti pa_X4_23 dX4_addStep_30 rfl (by decide) (ltn rfl) (by show 4 < 7; decide) rfl ?_
  exact v_vret hr dX4_addStep_33 (⟨rfl, (by simp only [rI_a, rI_sc, rI_nu, rI_fa, rI_st]), rfl, rfl, rfl, rfl⟩)
