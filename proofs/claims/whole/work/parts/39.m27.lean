/-- the reading's own fields and rows -/
def pI (I : Ty) (a dg sg wt op : Int32) (sn ws : Nat → Int32) : Ty := fun x => if x = 65 then (fun j => if j = 13 then a else if j = 14 then dg else if j = 23 then sg else if j = 24 then wt else if j = 25 then op else I 65 j) else if x = 80 then sn else if x = 81 then ws else I x
theorem pI_self (I : Ty) : I = pI I (I 65 13) (I 65 14) (I 65 23) (I 65 24) (I 65 25) (I 80) (I 81) := by
  funext x; unfold pI
  by_cases h : x = 65
  · subst h; rw [if_pos rfl]; funext j
    split
    · next h => rw [h]
    split
    · next h => rw [h]
    split
    · next h => rw [h]
    split
    · next h => rw [h]
    split
    · next h => rw [h]
    rfl
  · rw [if_neg h]
    split
    · next h => rw [h]
    split
    · next h => rw [h]
    rfl
section
variable (I : Ty) (a dg sg wt op : Int32) (sn ws : Nat → Int32) (v : Int32)
theorem pI_at : wr (pI I a dg sg wt op sn ws) 65 13 v = pI I v dg sg wt op sn ws := by
  funext x
  show va_up (pI I a dg sg wt op sn ws) 65 (va_up (pI I a dg sg wt op sn ws 65) 13 v) x = _
  by_cases e : x = 65
  · subst e; rw [up_at]; funext j
    by_cases ej : j = 13
    · subst ej; rw [up_at]; rfl
    · rw [up_off _ _ ej]; unfold pI; simp [ej]
  · rw [up_off _ _ e]; unfold pI; rw [if_neg e, if_neg e]
theorem pI_dg : wr (pI I a dg sg wt op sn ws) 65 14 v = pI I a v sg wt op sn ws := by
  funext x
  show va_up (pI I a dg sg wt op sn ws) 65 (va_up (pI I a dg sg wt op sn ws 65) 14 v) x = _
  by_cases e : x = 65
  · subst e; rw [up_at]; funext j
    by_cases ej : j = 14
    · subst ej; rw [up_at]; rfl
    · rw [up_off _ _ ej]; unfold pI; simp [ej]
  · rw [up_off _ _ e]; unfold pI; rw [if_neg e, if_neg e]
theorem pI_sg : wr (pI I a dg sg wt op sn ws) 65 23 v = pI I a dg v wt op sn ws := by
  funext x
  show va_up (pI I a dg sg wt op sn ws) 65 (va_up (pI I a dg sg wt op sn ws 65) 23 v) x = _
  by_cases e : x = 65
  · subst e; rw [up_at]; funext j
    by_cases ej : j = 23
    · subst ej; rw [up_at]; rfl
    · rw [up_off _ _ ej]; unfold pI; simp [ej]
  · rw [up_off _ _ e]; unfold pI; rw [if_neg e, if_neg e]
theorem pI_wt : wr (pI I a dg sg wt op sn ws) 65 24 v = pI I a dg sg v op sn ws := by
  funext x
  show va_up (pI I a dg sg wt op sn ws) 65 (va_up (pI I a dg sg wt op sn ws 65) 24 v) x = _
  by_cases e : x = 65
  · subst e; rw [up_at]; funext j
    by_cases ej : j = 24
    · subst ej; rw [up_at]; rfl
    · rw [up_off _ _ ej]; unfold pI; simp [ej]
  · rw [up_off _ _ e]; unfold pI; rw [if_neg e, if_neg e]
theorem pI_op : wr (pI I a dg sg wt op sn ws) 65 25 v = pI I a dg sg wt v sn ws := by
  funext x
  show va_up (pI I a dg sg wt op sn ws) 65 (va_up (pI I a dg sg wt op sn ws 65) 25 v) x = _
  by_cases e : x = 65
  · subst e; rw [up_at]; funext j
    by_cases ej : j = 25
    · subst ej; rw [up_at]; rfl
    · rw [up_off _ _ ej]; unfold pI; simp [ej]
  · rw [up_off _ _ e]; unfold pI; rw [if_neg e, if_neg e]
theorem pI_sn (k : Nat) : wr (pI I a dg sg wt op sn ws) 80 k v = pI I a dg sg wt op (va_up sn k v) ws := by
  funext x
  show va_up (pI I a dg sg wt op sn ws) 80 (va_up (pI I a dg sg wt op sn ws 80) k v) x = _
  by_cases e : x = 80
  · subst e; rw [up_at]; rfl
  · rw [up_off _ _ e]; unfold pI; by_cases h : x = 65
    · subst h; rfl
    · simp [e, h]
theorem pI_ws (k : Nat) : wr (pI I a dg sg wt op sn ws) 81 k v = pI I a dg sg wt op sn (va_up ws k v) := by
  funext x
  show va_up (pI I a dg sg wt op sn ws) 81 (va_up (pI I a dg sg wt op sn ws 81) k v) x = _
  by_cases e : x = 81
  · subst e; rw [up_at]; rfl
  · rw [up_off _ _ e]; unfold pI; by_cases h : x = 65
    · subst h; rfl
    · simp [e, h]
end
noncomputable def nxt (tx : Nat → Int32) (fd a : Nat) : Int32 := ifc (a < fd) (tx a) (-1)
set_option maxRecDepth 100000 in
set_option maxHeartbeats 400000 in
theorem c_X9_next {g : Gl} {I : Ty} {L : TL} {na nt ni m : Nat} {nl : Nat → Nat}  (az : Nat) (dz : Int32) (sz wz : Nat) (oz : Int32) (sn ws : Nat → Int32) (fd : Nat) (hf : fd ≤ 100) (hfd : I 65 12 = nI fd) (tx : Nat → Int32) (htx : I 74 = tx) (ha : az ≤ 1000) : Ct g yX9_next cX9_next 1 (some .int) 0 0 0 [.ref (g.1 + 65)] (pI I (nI az) dz (nI sz) (nI wz) oz sn ws) L (RT na nt ni) (NT nl) (NB + m) (Ps (some (.int (nxt tx fd az))) (pI I (nI az) dz (nI sz) (nI wz) oz sn ws) L (RT na nt ni) (NT nl) (NB + m)) := by
  refine ct_of (by decide +kernel) (Nat.le_of_ble_eq_true rfl) (fun F hnm hr => ?_)
  clear hnm
  show V g F cX9_next RX9 1 0 0 [(0, .ref (g.1 + 65))] [] (pI I (nI az) dz (nI sz) (nI wz) oz sn ws) L (RT na nt ni) (NT nl) (NB + m) 0 0
  refine v_aload_n dX9_next_0 rfl 0 rfl ?_
  refine v_get (v := .int ((pI I (nI az) dz (nI sz) (nI wz) oz sn ws) 65 13)) fa_X9_50 dX9_next_1 rfl (by decide) (ltn rfl) rfl ?_
  refine v_is (y := nI az) (by rfl) ?_
  refine v_aload_n dX9_next_4 rfl 0 rfl ?_
  refine v_get (v := .int ((pI I (nI az) dz (nI sz) (nI wz) oz sn ws) 65 12)) fa_X9_47 dX9_next_5 rfl (by decide) (ltn rfl) rfl ?_
  refine v_is (y := nI fd) (by exact hfd) ?_
  refine v_icmp_geN (a := az) (b := fd) (tgt := 23) dX9_next_8 (by decide) rfl rfl (by omega) (by omega) (fun h1 => ?_) (fun h1 => ?_)
  · -- az ge fd
    refine v_iconst (v := (-1)) dX9_next_23 (by decide) ?_
    exact v_iret hr dX9_next_24 (psi (by first | rfl | (simp only [bq, ifc_T, ifc_F, inr_m1, and_true, true_and, and_false, false_and, or_true, true_or, or_false, false_or, not_true_eq_false, not_false_eq_true, and_self, or_self, h1, nxt]; done) | (simp [bq, ifc_T, ifc_F, inr_m1, h1, nxt]; done) | ((try simp only [bq, nxt]); repeat (first | rfl | (refine eq_t ?_ ?_; focus (first | omega | assumption | (simp [inr_m1, h1]; done) | (simp [inr_m1, h1]; omega) | (clear hr; (try clear hkn); simp_all; done))) | (refine eq_f ?_ ?_; focus (first | omega | assumption | (simp [inr_m1, h1]; done) | (simp [inr_m1, h1]; omega) | (clear hr; (try clear hkn); simp_all; done))) | (exfalso; clear hr; (try clear hkn); simp_all; done)))) (by first | rfl | (simp only [bq, ifc_T, ifc_F, inr_m1, and_true, true_and, and_false, false_and, or_true, true_or, or_false, false_or, not_true_eq_false, not_false_eq_true, and_self, or_self, h1, nxt]; done) | (simp [bq, ifc_T, ifc_F, inr_m1, h1, nxt]; done) | ((try simp only [bq, nxt]); repeat (first | rfl | (refine eq_t ?_ ?_; focus (first | omega | assumption | (simp [inr_m1, h1]; done) | (simp [inr_m1, h1]; omega) | (clear hr; (try clear hkn); simp_all; done))) | (refine eq_f ?_ ?_; focus (first | omega | assumption | (simp [inr_m1, h1]; done) | (simp [inr_m1, h1]; omega) | (clear hr; (try clear hkn); simp_all; done))) | (exfalso; clear hr; (try clear hkn); simp_all; done)))))
  · -- az lt fd
    refine v_aload_n dX9_next_11 rfl 0 rfl ?_
    refine v_get (v := .ref (g.1 + 74)) fa_X9_56 dX9_next_12 rfl (by decide) (ltn rfl) rfl ?_
    refine v_aload_n dX9_next_15 rfl 0 rfl ?_
    refine v_get (v := .int ((pI I (nI az) dz (nI sz) (nI wz) oz sn ws) 65 13)) fa_X9_50 dX9_next_16 rfl (by decide) (ltn rfl) rfl ?_
    refine v_is (y := nI az) (by rfl) ?_
    refine v_iaload (len := 100) (j := az) dX9_next_19 rfl (ltn rfl) rfl (by decide) rfl (by omega) ?_
    refine v_is (y := tx az) (by exact congrFun htx _) ?_
    refine v_goto (tgt := 24) dX9_next_20 (by decide) ?_
    exact v_iret hr dX9_next_24 (psi (by first | rfl | (simp only [bq, ifc_T, ifc_F, inr_m1, and_true, true_and, and_false, false_and, or_true, true_or, or_false, false_or, not_true_eq_false, not_false_eq_true, and_self, or_self, h1, nxt]; done) | (simp [bq, ifc_T, ifc_F, inr_m1, h1, nxt]; done) | ((try simp only [bq, nxt]); repeat (first | rfl | (refine eq_t ?_ ?_; focus (first | omega | assumption | (simp [inr_m1, h1]; done) | (simp [inr_m1, h1]; omega) | (clear hr; (try clear hkn); simp_all; done))) | (refine eq_f ?_ ?_; focus (first | omega | assumption | (simp [inr_m1, h1]; done) | (simp [inr_m1, h1]; omega) | (clear hr; (try clear hkn); simp_all; done))) | (exfalso; clear hr; (try clear hkn); simp_all; done)))) (by first | rfl | (simp only [bq, ifc_T, ifc_F, inr_m1, and_true, true_and, and_false, false_and, or_true, true_or, or_false, false_or, not_true_eq_false, not_false_eq_true, and_self, or_self, h1, nxt]; done) | (simp [bq, ifc_T, ifc_F, inr_m1, h1, nxt]; done) | ((try simp only [bq, nxt]); repeat (first | rfl | (refine eq_t ?_ ?_; focus (first | omega | assumption | (simp [inr_m1, h1]; done) | (simp [inr_m1, h1]; omega) | (clear hr; (try clear hkn); simp_all; done))) | (refine eq_f ?_ ?_; focus (first | omega | assumption | (simp [inr_m1, h1]; done) | (simp [inr_m1, h1]; omega) | (clear hr; (try clear hkn); simp_all; done))) | (exfalso; clear hr; (try clear hkn); simp_all; done)))))
set_option maxRecDepth 100000 in
set_option maxHeartbeats 400000 in
theorem c_X9_takes {g : Gl} {I : Ty} {L : TL} {na nt ni m : Nat} {nl : Nat → Nat} (cz : Int32) (az : Nat) (dz : Int32) (sz wz : Nat) (oz : Int32) (sn ws : Nat → Int32) (fd : Nat) (hf : fd ≤ 100) (hfd : I 65 12 = nI fd) (tx : Nat → Int32) (htx : I 74 = tx) (ha : az ≤ 1000) : Ct g yX9_takes cX9_takes 2 (some .boolean) 1 0 0 [.ref (g.1 + 65), .int cz] (pI I (nI az) dz (nI sz) (nI wz) oz sn ws) L (RT na nt ni) (NT nl) (NB + m) (Ps (some (.int (bq (nxt tx fd az = cz)))) (pI I (nI (ifc (nxt tx fd az = cz) (az + 1) az)) dz (nI sz) (nI wz) oz sn ws) L (RT na nt ni) (NT nl) (NB + m)) := by
  refine ct_of (by decide +kernel) (Nat.le_of_ble_eq_true rfl) (fun F hnm hr => ?_)
  clear hnm
  show V g F cX9_takes RX9 2 1 0 [(0, .ref (g.1 + 65)), (1, .int cz)] [] (pI I (nI az) dz (nI sz) (nI wz) oz sn ws) L (RT na nt ni) (NT nl) (NB + m) 0 0
  refine v_aload_n dX9_takes_0 rfl 0 rfl ?_
  refine v_callVi (As := []) (rest := []) lk_X9_249 (c_X9_next (I := I) az dz sz wz oz sn ws fd hf hfd tx htx (by omega)) dX9_takes_1 rfl (ltn rfl) rfl rfl (Nat.le_of_ble_eq_true rfl) (by decide) ?_
  refine v_iload_n dX9_takes_4 rfl 1 rfl ?_
  refine v_icmp_eq (tgt := 10) dX9_takes_5 (by decide) (fun h2 => ?_) (fun h2 => ?_)
  · refine v_aload_n dX9_takes_10 rfl 0 rfl ?_
    refine v_dup dX9_takes_11 rfl ?_
    refine v_get (v := .int ((pI I (nI az) dz (nI sz) (nI wz) oz sn ws) 65 13)) fa_X9_50 dX9_takes_12 rfl (by decide) (ltn rfl) rfl ?_
    refine v_is (y := nI az) (by rfl) ?_
    refine v_iconst (v := 1) dX9_takes_15 (by decide) ?_
    refine v_iadd dX9_takes_16 ?_
    refine v_is (nx_add rfl rfl) ?_
    refine v_puti pa_X9_50 dX9_takes_17 rfl (by decide) (ltn rfl) (by show 13 < 73; decide) rfl ?_
    refine v_iconst (v := 1) dX9_takes_20 (by decide) ?_
    exact v_zret hr dX9_takes_21 (by first | rfl | exact nbq) (⟨congrArg (fun z => some (Value.int z)) (by rw [bq_t h2]), (by rw [ifc_t h2]; simp only [pI_at, pI_dg, pI_sg, pI_wt, pI_op, pI_sn, pI_ws]), rfl, rfl, rfl, rfl⟩)
  · refine v_iconst (v := 0) dX9_takes_8 (by decide) ?_
    exact v_zret hr dX9_takes_9 (by first | rfl | exact nbq) (⟨congrArg (fun z => some (Value.int z)) (by rw [bq_f h2]), (by rw [ifc_f h2]), rfl, rfl, rfl, rfl⟩)
def digP (x : Int32) : Prop := 48 ≤ x ∧ x ≤ 57
set_option maxRecDepth 100000 in
set_option maxHeartbeats 400000 in
theorem c_X9_isDigit {g : Gl} {I : Ty} {L : TL} {na nt ni m : Nat} {nl : Nat → Nat}  (az : Nat) (dz : Int32) (sz wz : Nat) (oz : Int32) (sn ws : Nat → Int32) (fd : Nat) (hf : fd ≤ 100) (hfd : I 65 12 = nI fd) (tx : Nat → Int32) (htx : I 74 = tx) (ha : az ≤ 1000) : Ct g yX9_isDigit cX9_isDigit 1 (some .boolean) 2 0 0 [.ref (g.1 + 65)] (pI I (nI az) dz (nI sz) (nI wz) oz sn ws) L (RT na nt ni) (NT nl) (NB + m) (Ps (some (.int (bq (digP (nxt tx fd az))))) (pI I (nI az) dz (nI sz) (nI wz) oz sn ws) L (RT na nt ni) (NT nl) (NB + m)) := by
  refine ct_of (by decide +kernel) (Nat.le_of_ble_eq_true rfl) (fun F hnm hr => ?_)
  clear hnm
  show V g F cX9_isDigit RX9 1 2 0 [(0, .ref (g.1 + 65))] [] (pI I (nI az) dz (nI sz) (nI wz) oz sn ws) L (RT na nt ni) (NT nl) (NB + m) 0 0
  refine v_aload_n dX9_isDigit_0 rfl 0 rfl ?_
  refine v_aload_n dX9_isDigit_1 rfl 0 rfl ?_
  refine v_callVi (As := []) (rest := [.ref (g.1 + 65)]) lk_X9_249 (c_X9_next (I := I) az dz sz wz oz sn ws fd hf hfd tx htx (by omega)) dX9_isDigit_2 rfl (ltn rfl) rfl rfl (Nat.le_of_ble_eq_true rfl) (by decide) ?_
  refine v_bipush (v := 48) dX9_isDigit_5 (by decide) ?_
  refine v_bipush (v := 57) dX9_isDigit_7 (by decide) ?_
  refine v_callVi (As := [.int (nxt tx fd az), .int 48, .int 57]) (rest := []) lk_X9_237 (c_X9_in (nxt tx fd az) 48 57) dX9_isDigit_9 rfl (ltn rfl) rfl rfl (Nat.le_of_ble_eq_true rfl) (by decide) ?_
  exact v_zret hr dX9_isDigit_12 (by first | rfl | exact nbq) (psi (by rfl) (by first | rfl | (simp only [bq, ifc_T, ifc_F, inr_m1, and_true, true_and, and_false, false_and, or_true, true_or, or_false, false_or, not_true_eq_false, not_false_eq_true, and_self, or_self]; done) | (simp [bq, ifc_T, ifc_F, inr_m1]; done) | ((try simp only [bq]); repeat (first | rfl | (refine eq_t ?_ ?_; focus (first | omega | assumption | (simp [inr_m1]; done) | (simp [inr_m1]; omega) | (clear hr; (try clear hkn); simp_all; done))) | (refine eq_f ?_ ?_; focus (first | omega | assumption | (simp [inr_m1]; done) | (simp [inr_m1]; omega) | (clear hr; (try clear hkn); simp_all; done))) | (exfalso; clear hr; (try clear hkn); simp_all; done)))))
set_option maxRecDepth 100000 in
set_option maxHeartbeats 400000 in
theorem c_X9_emits {g : Gl} {I : Ty} {L : TL} {na nt ni m : Nat} {nl : Nat → Nat} (sg : Int32) (az : Nat) (dz : Int32) (sz wz : Nat) (oz : Int32) (sn ws : Nat → Int32) (fd : Nat) (hf : fd ≤ 100) (hfd : I 65 12 = nI fd) (tx : Nat → Int32) (htx : I 74 = tx) (hs : sz < 600) : Ct g yX9_emits cX9_emits 2 none 0 0 0 [.ref (g.1 + 65), .int sg] (pI I (nI az) dz (nI sz) (nI wz) oz sn ws) L (RT na nt ni) (NT nl) (NB + m) (Ps none (pI I (nI az) dz (nI (sz + 1)) (nI wz) oz (va_up sn sz sg) ws) L (RT na nt ni) (NT nl) (NB + m)) := by
  refine ct_of (by decide +kernel) (Nat.le_of_ble_eq_true rfl) (fun F hnm hr => ?_)
  clear hnm
  show V g F cX9_emits RX9 2 0 0 [(0, .ref (g.1 + 65)), (1, .int sg)] [] (pI I (nI az) dz (nI sz) (nI wz) oz sn ws) L (RT na nt ni) (NT nl) (NB + m) 0 0
  refine v_aload_n dX9_emits_0 rfl 0 rfl ?_
  refine v_get (v := .ref (g.1 + 80)) fa_X9_74 dX9_emits_1 rfl (by decide) (ltn rfl) rfl ?_
  refine v_aload_n dX9_emits_4 rfl 0 rfl ?_
  refine v_get (v := .int ((pI I (nI az) dz (nI sz) (nI wz) oz sn ws) 65 23)) fa_X9_80 dX9_emits_5 rfl (by decide) (ltn rfl) rfl ?_
  refine v_is (y := nI sz) (by rfl) ?_
  refine v_iload_n dX9_emits_8 rfl 1 rfl ?_
  refine v_iastore (len := 600) (j := sz) dX9_emits_9 rfl (ltn rfl) rfl (by decide) rfl (by omega) ?_
  refine v_aload_n dX9_emits_10 rfl 0 rfl ?_
  refine v_dup dX9_emits_11 rfl ?_
  refine v_get (v := .int ((pI I (nI az) dz (nI sz) (nI wz) oz sn ws) 65 23)) fa_X9_80 dX9_emits_12 rfl (by decide) (ltn rfl) rfl ?_
  refine v_is (y := nI sz) (by rfl) ?_
  refine v_iconst (v := 1) dX9_emits_15 (by decide) ?_
  refine v_iadd dX9_emits_16 ?_
  refine v_is (nx_add rfl rfl) ?_
  refine v_puti pa_X9_80 dX9_emits_17 rfl (by decide) (ltn rfl) (by show 23 < 73; decide) rfl ?_
  exact v_vret hr dX9_emits_20 (⟨rfl, (by simp only [pI_at, pI_dg, pI_sg, pI_wt, pI_op, pI_sn, pI_ws]), rfl, rfl, rfl, rfl⟩)
noncomputable def plc (x : Int32) : Int32 := ifc (x = 112) 0 (ifc (x = 107) 1 (ifc (x = 118) 2 (ifc (x = 99) 3 (ifc (x = 103) 4 (ifc (x = 104) 5 (-1))))))
set_option maxRecDepth 100000 in
set_option maxHeartbeats 400000 in
theorem c_X9_place {g : Gl} {I : Ty} {L : TL} {na nt ni m : Nat} {nl : Nat → Nat} (cz : Int32)  : Ct g yX9_place cX9_place 2 (some .int) 0 0 0 [.ref (g.1 + 65), .int cz] I L (RT na nt ni) (NT nl) (NB + m) (Ps (some (.int (plc cz))) I L (RT na nt ni) (NT nl) (NB + m)) := by
  refine ct_of (by decide +kernel) (Nat.le_of_ble_eq_true rfl) (fun F hnm hr => ?_)
  clear hnm
  show V g F cX9_place RX9 2 0 0 [(0, .ref (g.1 + 65)), (1, .int cz)] [] I L (RT na nt ni) (NT nl) (NB + m) 0 0
  refine v_iload_n dX9_place_0 rfl 1 rfl ?_
  by_cases k1_99 : cz = 99
  · refine v_is k1_99 ?_
    refine v_tabIn (off := 101) (tgt := 102) dX9_place_1 (by decide) (by decide) (by decide) (by decide) ?_
    refine v_iconst (v := 3) dX9_place_102 (by decide) ?_
    exact v_iret hr dX9_place_103 (psi (by first | rfl | (simp only [bq, ifc_T, ifc_F, inr_m1, and_true, true_and, and_false, false_and, or_true, true_or, or_false, false_or, not_true_eq_false, not_false_eq_true, and_self, or_self, k1_99, plc]; done) | (simp [bq, ifc_T, ifc_F, inr_m1, k1_99, plc]; done) | ((try simp only [bq, plc]); repeat (first | rfl | (refine eq_t ?_ ?_; focus (first | omega | assumption | (simp [inr_m1, k1_99]; done) | (simp [inr_m1, k1_99]; omega) | (clear hr; (try clear hkn); simp_all; done))) | (refine eq_f ?_ ?_; focus (first | omega | assumption | (simp [inr_m1, k1_99]; done) | (simp [inr_m1, k1_99]; omega) | (clear hr; (try clear hkn); simp_all; done))) | (exfalso; clear hr; (try clear hkn); simp_all; done)))) rfl)
  by_cases k1_103 : cz = 103
  · refine v_is k1_103 ?_
    refine v_tabIn (off := 103) (tgt := 104) dX9_place_1 (by decide) (by decide) (by decide) (by decide) ?_
    refine v_iconst (v := 4) dX9_place_104 (by decide) ?_
    exact v_iret hr dX9_place_105 (psi (by first | rfl | (simp only [bq, ifc_T, ifc_F, inr_m1, and_true, true_and, and_false, false_and, or_true, true_or, or_false, false_or, not_true_eq_false, not_false_eq_true, and_self, or_self, k1_103, plc]; done) | (simp [bq, ifc_T, ifc_F, inr_m1, k1_103, plc]; done) | ((try simp only [bq, plc]); repeat (first | rfl | (refine eq_t ?_ ?_; focus (first | omega | assumption | (simp [inr_m1, k1_103]; done) | (simp [inr_m1, k1_103]; omega) | (clear hr; (try clear hkn); simp_all; done))) | (refine eq_f ?_ ?_; focus (first | omega | assumption | (simp [inr_m1, k1_103]; done) | (simp [inr_m1, k1_103]; omega) | (clear hr; (try clear hkn); simp_all; done))) | (exfalso; clear hr; (try clear hkn); simp_all; done)))) rfl)
  by_cases k1_104 : cz = 104
  · refine v_is k1_104 ?_
    refine v_tabIn (off := 105) (tgt := 106) dX9_place_1 (by decide) (by decide) (by decide) (by decide) ?_
    refine v_iconst (v := 5) dX9_place_106 (by decide) ?_
    exact v_iret hr dX9_place_107 (psi (by first | rfl | (simp only [bq, ifc_T, ifc_F, inr_m1, and_true, true_and, and_false, false_and, or_true, true_or, or_false, false_or, not_true_eq_false, not_false_eq_true, and_self, or_self, k1_104, plc]; done) | (simp [bq, ifc_T, ifc_F, inr_m1, k1_104, plc]; done) | ((try simp only [bq, plc]); repeat (first | rfl | (refine eq_t ?_ ?_; focus (first | omega | assumption | (simp [inr_m1, k1_104]; done) | (simp [inr_m1, k1_104]; omega) | (clear hr; (try clear hkn); simp_all; done))) | (refine eq_f ?_ ?_; focus (first | omega | assumption | (simp [inr_m1, k1_104]; done) | (simp [inr_m1, k1_104]; omega) | (clear hr; (try clear hkn); simp_all; done))) | (exfalso; clear hr; (try clear hkn); simp_all; done)))) rfl)
  by_cases k1_107 : cz = 107
  · refine v_is k1_107 ?_
    refine v_tabIn (off := 97) (tgt := 98) dX9_place_1 (by decide) (by decide) (by decide) (by decide) ?_
    refine v_iconst (v := 1) dX9_place_98 (by decide) ?_
    exact v_iret hr dX9_place_99 (psi (by first | rfl | (simp only [bq, ifc_T, ifc_F, inr_m1, and_true, true_and, and_false, false_and, or_true, true_or, or_false, false_or, not_true_eq_false, not_false_eq_true, and_self, or_self, k1_107, plc]; done) | (simp [bq, ifc_T, ifc_F, inr_m1, k1_107, plc]; done) | ((try simp only [bq, plc]); repeat (first | rfl | (refine eq_t ?_ ?_; focus (first | omega | assumption | (simp [inr_m1, k1_107]; done) | (simp [inr_m1, k1_107]; omega) | (clear hr; (try clear hkn); simp_all; done))) | (refine eq_f ?_ ?_; focus (first | omega | assumption | (simp [inr_m1, k1_107]; done) | (simp [inr_m1, k1_107]; omega) | (clear hr; (try clear hkn); simp_all; done))) | (exfalso; clear hr; (try clear hkn); simp_all; done)))) rfl)
  by_cases k1_112 : cz = 112
  · refine v_is k1_112 ?_
    refine v_tabIn (off := 95) (tgt := 96) dX9_place_1 (by decide) (by decide) (by decide) (by decide) ?_
    refine v_iconst (v := 0) dX9_place_96 (by decide) ?_
    exact v_iret hr dX9_place_97 (psi (by first | rfl | (simp only [bq, ifc_T, ifc_F, inr_m1, and_true, true_and, and_false, false_and, or_true, true_or, or_false, false_or, not_true_eq_false, not_false_eq_true, and_self, or_self, k1_112, plc]; done) | (simp [bq, ifc_T, ifc_F, inr_m1, k1_112, plc]; done) | ((try simp only [bq, plc]); repeat (first | rfl | (refine eq_t ?_ ?_; focus (first | omega | assumption | (simp [inr_m1, k1_112]; done) | (simp [inr_m1, k1_112]; omega) | (clear hr; (try clear hkn); simp_all; done))) | (refine eq_f ?_ ?_; focus (first | omega | assumption | (simp [inr_m1, k1_112]; done) | (simp [inr_m1, k1_112]; omega) | (clear hr; (try clear hkn); simp_all; done))) | (exfalso; clear hr; (try clear hkn); simp_all; done)))) rfl)
  by_cases k1_118 : cz = 118
  · refine v_is k1_118 ?_
    refine v_tabIn (off := 99) (tgt := 100) dX9_place_1 (by decide) (by decide) (by decide) (by decide) ?_
    refine v_iconst (v := 2) dX9_place_100 (by decide) ?_
    exact v_iret hr dX9_place_101 (psi (by first | rfl | (simp only [bq, ifc_T, ifc_F, inr_m1, and_true, true_and, and_false, false_and, or_true, true_or, or_false, false_or, not_true_eq_false, not_false_eq_true, and_self, or_self, k1_118, plc]; done) | (simp [bq, ifc_T, ifc_F, inr_m1, k1_118, plc]; done) | ((try simp only [bq, plc]); repeat (first | rfl | (refine eq_t ?_ ?_; focus (first | omega | assumption | (simp [inr_m1, k1_118]; done) | (simp [inr_m1, k1_118]; omega) | (clear hr; (try clear hkn); simp_all; done))) | (refine eq_f ?_ ?_; focus (first | omega | assumption | (simp [inr_m1, k1_118]; done) | (simp [inr_m1, k1_118]; omega) | (clear hr; (try clear hkn); simp_all; done))) | (exfalso; clear hr; (try clear hkn); simp_all; done)))) rfl)
  have t2 : cz.toInt < 99 ∨ 118 < cz.toInt ∨ cz = 100 ∨ cz = 101 ∨ cz = 102 ∨ cz = 105 ∨ cz = 106 ∨ cz = 108 ∨ cz = 109 ∨ cz = 110 ∨ cz = 111 ∨ cz = 113 ∨ cz = 114 ∨ cz = 115 ∨ cz = 116 ∨ cz = 117 := by
    rcases sw_out cz (99) (118) with h | h | ⟨ha, hb⟩
    · exact Or.inl h
    · exact Or.inr (Or.inl h)
    · refine Or.inr (Or.inr ?_)
      have hz : ∀ z : Int, 99 ≤ z → z ≤ 118 → z = 99 ∨ z = 100 ∨ z = 101 ∨ z = 102 ∨ z = 103 ∨ z = 104 ∨ z = 105 ∨ z = 106 ∨ z = 107 ∨ z = 108 ∨ z = 109 ∨ z = 110 ∨ z = 111 ∨ z = 112 ∨ z = 113 ∨ z = 114 ∨ z = 115 ∨ z = 116 ∨ z = 117 ∨ z = 118 := by omega
      rcases hz _ ha hb with e | e | e | e | e | e | e | e | e | e | e | e | e | e | e | e | e | e | e | e
      · exact absurd (sw_eq (k := 99) e (by decide)) k1_99
      · exact (Or.inl (sw_eq (k := 100) e (by decide)))
      · exact (Or.inr (Or.inl (sw_eq (k := 101) e (by decide))))
      · exact (Or.inr (Or.inr (Or.inl (sw_eq (k := 102) e (by decide)))))
      · exact absurd (sw_eq (k := 103) e (by decide)) k1_103
      · exact absurd (sw_eq (k := 104) e (by decide)) k1_104
      · exact (Or.inr (Or.inr (Or.inr (Or.inl (sw_eq (k := 105) e (by decide))))))
      · exact (Or.inr (Or.inr (Or.inr (Or.inr (Or.inl (sw_eq (k := 106) e (by decide)))))))
      · exact absurd (sw_eq (k := 107) e (by decide)) k1_107
      · exact (Or.inr (Or.inr (Or.inr (Or.inr (Or.inr (Or.inl (sw_eq (k := 108) e (by decide))))))))
      · exact (Or.inr (Or.inr (Or.inr (Or.inr (Or.inr (Or.inr (Or.inl (sw_eq (k := 109) e (by decide)))))))))
      · exact (Or.inr (Or.inr (Or.inr (Or.inr (Or.inr (Or.inr (Or.inr (Or.inl (sw_eq (k := 110) e (by decide))))))))))
      · exact (Or.inr (Or.inr (Or.inr (Or.inr (Or.inr (Or.inr (Or.inr (Or.inr (Or.inl (sw_eq (k := 111) e (by decide)))))))))))
      · exact absurd (sw_eq (k := 112) e (by decide)) k1_112
      · exact (Or.inr (Or.inr (Or.inr (Or.inr (Or.inr (Or.inr (Or.inr (Or.inr (Or.inr (Or.inl (sw_eq (k := 113) e (by decide))))))))))))
      · exact (Or.inr (Or.inr (Or.inr (Or.inr (Or.inr (Or.inr (Or.inr (Or.inr (Or.inr (Or.inr (Or.inl (sw_eq (k := 114) e (by decide)))))))))))))
      · exact (Or.inr (Or.inr (Or.inr (Or.inr (Or.inr (Or.inr (Or.inr (Or.inr (Or.inr (Or.inr (Or.inr (Or.inl (sw_eq (k := 115) e (by decide))))))))))))))
      · exact (Or.inr (Or.inr (Or.inr (Or.inr (Or.inr (Or.inr (Or.inr (Or.inr (Or.inr (Or.inr (Or.inr (Or.inr (Or.inl (sw_eq (k := 116) e (by decide)))))))))))))))
      · exact (Or.inr (Or.inr (Or.inr (Or.inr (Or.inr (Or.inr (Or.inr (Or.inr (Or.inr (Or.inr (Or.inr (Or.inr (Or.inr (sw_eq (k := 117) e (by decide)))))))))))))))
      · exact absurd (sw_eq (k := 118) e (by decide)) k1_118
  have J3 : V g F cX9_place RX9 2 0 108 [(0, .ref (g.1 + 65)), (1, .int cz)] [] I L (RT na nt ni) (NT nl) (NB + m) 0 0 := by
    refine v_iconst (v := (-1)) dX9_place_108 (by decide) ?_
    exact v_iret hr dX9_place_109 (psi (by first | rfl | (simp only [bq, ifc_T, ifc_F, inr_m1, and_true, true_and, and_false, false_and, or_true, true_or, or_false, false_or, not_true_eq_false, not_false_eq_true, and_self, or_self, k1_99, k1_103, k1_104, k1_107, k1_112, k1_118, plc]; done) | (simp [bq, ifc_T, ifc_F, inr_m1, k1_99, k1_103, k1_104, k1_107, k1_112, k1_118, plc]; done) | ((try simp only [bq, plc]); repeat (first | rfl | (refine eq_t ?_ ?_; focus (first | omega | assumption | (simp [inr_m1, k1_99, k1_103, k1_104, k1_107, k1_112, k1_118]; done) | (simp [inr_m1, k1_99, k1_103, k1_104, k1_107, k1_112, k1_118]; omega) | (clear hr; (try clear hkn); simp_all; done))) | (refine eq_f ?_ ?_; focus (first | omega | assumption | (simp [inr_m1, k1_99, k1_103, k1_104, k1_107, k1_112, k1_118]; done) | (simp [inr_m1, k1_99, k1_103, k1_104, k1_107, k1_112, k1_118]; omega) | (clear hr; (try clear hkn); simp_all; done))) | (exfalso; clear hr; (try clear hkn); simp_all; done)))) rfl)
  rcases t2 with t2 | t2 | t2 | t2 | t2 | t2 | t2 | t2 | t2 | t2 | t2 | t2 | t2 | t2 | t2 | t2
  · exact v_tabOut (tgt := 108) dX9_place_1 (Or.inl t2) (by decide) J3
  · exact v_tabOut (tgt := 108) dX9_place_1 (Or.inr t2) (by decide) J3
  · exact v_is t2 (v_tabIn (off := 107) (tgt := 108) dX9_place_1 (by decide) (by decide) (by decide) (by decide) J3)
  · exact v_is t2 (v_tabIn (off := 107) (tgt := 108) dX9_place_1 (by decide) (by decide) (by decide) (by decide) J3)
  · exact v_is t2 (v_tabIn (off := 107) (tgt := 108) dX9_place_1 (by decide) (by decide) (by decide) (by decide) J3)
  · exact v_is t2 (v_tabIn (off := 107) (tgt := 108) dX9_place_1 (by decide) (by decide) (by decide) (by decide) J3)
  · exact v_is t2 (v_tabIn (off := 107) (tgt := 108) dX9_place_1 (by decide) (by decide) (by decide) (by decide) J3)
  · exact v_is t2 (v_tabIn (off := 107) (tgt := 108) dX9_place_1 (by decide) (by decide) (by decide) (by decide) J3)
  · exact v_is t2 (v_tabIn (off := 107) (tgt := 108) dX9_place_1 (by decide) (by decide) (by decide) (by decide) J3)
  · exact v_is t2 (v_tabIn (off := 107) (tgt := 108) dX9_place_1 (by decide) (by decide) (by decide) (by decide) J3)
  · exact v_is t2 (v_tabIn (off := 107) (tgt := 108) dX9_place_1 (by decide) (by decide) (by decide) (by decide) J3)
  · exact v_is t2 (v_tabIn (off := 107) (tgt := 108) dX9_place_1 (by decide) (by decide) (by decide) (by decide) J3)
  · exact v_is t2 (v_tabIn (off := 107) (tgt := 108) dX9_place_1 (by decide) (by decide) (by decide) (by decide) J3)
  · exact v_is t2 (v_tabIn (off := 107) (tgt := 108) dX9_place_1 (by decide) (by decide) (by decide) (by decide) J3)
  · exact v_is t2 (v_tabIn (off := 107) (tgt := 108) dX9_place_1 (by decide) (by decide) (by decide) (by decide) J3)
  · exact v_is t2 (v_tabIn (off := 107) (tgt := 108) dX9_place_1 (by decide) (by decide) (by decide) (by decide) J3)
