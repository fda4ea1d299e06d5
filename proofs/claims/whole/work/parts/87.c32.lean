def imgC (I : Ty) : Ty := wr (cpR (cpR (cpR (cpL I 43 23) 9 2) 11 4) 13 6) 0 5 1
def undC (I : Ty) : Ty := cpR (cpR (cpR (cpL I 23 43) 2 9) 4 11) 6 13
set_option maxRecDepth 100000 in
set_option maxHeartbeats 400000 in
theorem c_X8_image {g : Gl} {I : Ty} {L : TL} {na nt ni m : Nat} {nl : Nat → Nat}  (hmo9 : I 9 1 = nI 5) (hmo11 : I 11 1 = nI 8) (hmo13 : I 13 1 = nI 8) : Ct g yX8_image cX8_image 1 (some .int) 3 0 0 [.ref (g.1 + 0)] I L (RT na nt ni) (NT nl) (NB + m) (PZ na na m nl (some (.int (I 23 1))) (imgC I) L) := by
  refine ct_of (by decide +kernel) (Nat.le_of_ble_eq_true rfl) (fun F hnm hr => ?_)
  clear hnm
  show V g F cX8_image RX8 1 3 0 [(0, .ref (g.1 + 0))] [] I L (RT na nt ni) (NT nl) (NB + m) 0 0
  refine v_aload_n dX8_image_0 rfl 0 rfl ?_
  refine v_get (v := .ref (g.1 + 43)) fa_X8_58 dX8_image_1 rfl (by decide) (ltn rfl) rfl ?_
  refine v_aload_n dX8_image_4 rfl 0 rfl ?_
  refine v_get (v := .ref (g.1 + 23)) fa_X8_51 dX8_image_5 rfl (by decide) (ltn rfl) rfl ?_
  refine v_callVv (As := [.ref (g.1 + 23)]) (rest := []) lk_X8_229 (c_copyFrom_43_23 (I := I)) dX8_image_8 rfl (ltn rfl) rfl rfl (Nat.le_of_ble_eq_true rfl) (by decide) ?_
  refine v_aload_n dX8_image_11 rfl 0 rfl ?_
  refine v_get (v := .ref (g.1 + 8)) fa_X8_18 dX8_image_12 rfl (by decide) (ltn rfl) rfl ?_
  refine v_aload_n dX8_image_15 rfl 0 rfl ?_
  refine v_get (v := .ref (g.1 + 1)) fa_X8_12 dX8_image_16 rfl (by decide) (ltn rfl) rfl ?_
  refine v_callVv (As := [.ref (g.1 + 1)]) (rest := []) lk_X8_261 (c_hcopy_8_1 (I := (cpL I 43 23)) hmo9 hmo11 hmo13) dX8_image_19 rfl (ltn rfl) rfl rfl (Nat.le_of_ble_eq_true rfl) (by decide) ?_
  refine v_aload_n dX8_image_22 rfl 0 rfl ?_
  refine v_iconst (v := 1) dX8_image_23 (by decide) ?_
  refine v_putz pa_X8_264 dX8_image_24 rfl (by decide) (ltn rfl) rfl rfl (by show 5 < 10; decide) rfl ?_
  refine v_aload_n dX8_image_27 rfl 0 rfl ?_
  refine v_get (v := .ref (g.1 + 23)) fa_X8_51 dX8_image_28 rfl (by decide) (ltn rfl) rfl ?_
  refine v_get (v := .int ((cpR (cpR (cpR (cpL I 43 23) 9 2) 11 4) 13 6) 23 1)) fa_X8_66 dX8_image_31 rfl (by decide) (ltn rfl) rfl ?_
  exact v_iret hr dX8_image_34 (⟨rfl, ⟨_, scC_self _⟩, rfl, ⟨_, rfl⟩, rfl, rfl⟩)
set_option maxRecDepth 100000 in
set_option maxHeartbeats 400000 in
theorem c_undo0 {g : Gl} {I : Ty} {L : TL} {na nt ni m : Nat} {nl : Nat → Nat}  (hu : I 0 5 = 0) : Ct g yX8_undo cX8_undo 1 (some .int) 3 0 0 [.ref (g.1 + 0)] I L (RT na nt ni) (NT nl) (NB + m) (PZ na ni m nl (some (.int (-3))) I L) := by
  refine ct_of (by decide +kernel) (Nat.le_of_ble_eq_true rfl) (fun F hnm hr => ?_)
  clear hnm
  show V g F cX8_undo RX8 1 3 0 [(0, .ref (g.1 + 0))] [] I L (RT na nt ni) (NT nl) (NB + m) 0 0
  refine v_aload_n dX8_undo_0 rfl 0 rfl ?_
  refine v_get (v := .int (I 0 5)) fa_X8_264 dX8_undo_1 rfl (by decide) (ltn rfl) rfl ?_
  refine v_is hu ?_
  refine v_if_ne (tgt := 10) dX8_undo_4 (by decide) (fun h1 => by first | exact absurd h1 (by decide) | exact absurd (by decide) h1) (fun _ => ?_)
  refine v_bipush (v := (-3)) dX8_undo_7 (by decide) ?_
  exact v_iret hr dX8_undo_9 (⟨rfl, ⟨_, scC_self _⟩, rfl, ⟨_, rfl⟩, rfl, rfl⟩)
set_option maxRecDepth 100000 in
set_option maxHeartbeats 400000 in
theorem c_undo1 {g : Gl} {I : Ty} {L : TL} {na nt ni m : Nat} {nl : Nat → Nat}  (hu : ¬ I 0 5 = 0) (hmo2 : I 2 1 = nI 5) (hmo4 : I 4 1 = nI 8) (hmo6 : I 6 1 = nI 8) : Ct g yX8_undo cX8_undo 1 (some .int) 3 0 0 [.ref (g.1 + 0)] I L (RT na nt ni) (NT nl) (NB + m) (PZ ni ni m nl (some (.int (I 43 1))) (undC I) L) := by
  refine ct_of (by decide +kernel) (Nat.le_of_ble_eq_true rfl) (fun F hnm hr => ?_)
  clear hnm
  show V g F cX8_undo RX8 1 3 0 [(0, .ref (g.1 + 0))] [] I L (RT na nt ni) (NT nl) (NB + m) 0 0
  refine v_aload_n dX8_undo_0 rfl 0 rfl ?_
  refine v_get (v := .int (I 0 5)) fa_X8_264 dX8_undo_1 rfl (by decide) (ltn rfl) rfl ?_
  refine v_if_ne (tgt := 10) dX8_undo_4 (by decide) (fun _ => ?_) (fun q => absurd q hu)
  refine v_aload_n dX8_undo_10 rfl 0 rfl ?_
  refine v_get (v := .ref (g.1 + 23)) fa_X8_51 dX8_undo_11 rfl (by decide) (ltn rfl) rfl ?_
  refine v_aload_n dX8_undo_14 rfl 0 rfl ?_
  refine v_get (v := .ref (g.1 + 43)) fa_X8_58 dX8_undo_15 rfl (by decide) (ltn rfl) rfl ?_
  refine v_callVv (As := [.ref (g.1 + 43)]) (rest := []) lk_X8_229 (c_copyFrom_23_43 (I := I)) dX8_undo_18 rfl (ltn rfl) rfl rfl (Nat.le_of_ble_eq_true rfl) (by decide) ?_
  refine v_aload_n dX8_undo_21 rfl 0 rfl ?_
  refine v_get (v := .ref (g.1 + 1)) fa_X8_12 dX8_undo_22 rfl (by decide) (ltn rfl) rfl ?_
  refine v_aload_n dX8_undo_25 rfl 0 rfl ?_
  refine v_get (v := .ref (g.1 + 8)) fa_X8_18 dX8_undo_26 rfl (by decide) (ltn rfl) rfl ?_
  refine v_callVv (As := [.ref (g.1 + 8)]) (rest := []) lk_X8_261 (c_hcopy_1_8 (I := (cpL I 23 43)) hmo2 hmo4 hmo6) dX8_undo_29 rfl (ltn rfl) rfl rfl (Nat.le_of_ble_eq_true rfl) (by decide) ?_
  refine v_aload_n dX8_undo_32 rfl 0 rfl ?_
  refine v_get (v := .ref (g.1 + 23)) fa_X8_51 dX8_undo_33 rfl (by decide) (ltn rfl) rfl ?_
  refine v_get (v := .int ((cpR (cpR (cpR (cpL I 23 43) 2 9) 4 11) 6 13) 23 1)) fa_X8_66 dX8_undo_36 rfl (by decide) (ltn rfl) rfl ?_
  exact v_iret hr dX8_undo_39 (⟨rfl, ⟨_, scC_self _⟩, rfl, ⟨_, rfl⟩, rfl, rfl⟩)
noncomputable def cbody (I : Ty) (rn : Nat) (b : Int32) : Ty := wr (ifc (rn < 20) (wr I 19 rn b) I) 18 0 (nI (rn + 1))
noncomputable def ctr : Ty → Nat → List Int32 → Ty
  | I, _, [] => I
  | I, rn, b :: bs => ctr (cbody I rn b) (rn + 1) bs
theorem cbody_off (I : Ty) (rn : Nat) (b : Int32) (a : Nat) (h1 : a ≠ 18) (h2 : a ≠ 19) : cbody I rn b a = I a := by
  unfold cbody wr
  rw [up_off _ _ h1]
  by_cases h : rn < 20
  · rw [ifc_t h, up_off _ _ h2]
  · rw [ifc_f h]
theorem cbody_18 (I : Ty) (rn : Nat) (b : Int32) : cbody I rn b 18 = va_up (I 18) 0 (nI (rn + 1)) := by
  unfold cbody wr
  rw [up_at]
  by_cases h : rn < 20
  · rw [ifc_t h, up_off _ _ (by decide)]
  · rw [ifc_f h]
theorem ctr_18 : ∀ (bs : List Int32) (I : Ty) (rn j : Nat), j ≠ 0 → ctr I rn bs 18 j = I 18 j
  | [], _, _, _, _ => rfl
  | b :: bs, I, rn, j, hj => by
    show ctr (cbody I rn b) (rn + 1) bs 18 j = _
    rw [ctr_18 bs _ _ j hj, cbody_18, up_off _ _ hj]
theorem ctr_0 : ∀ (bs : List Int32) (I : Ty) (rn : Nat), I 18 0 = nI rn → ctr I rn bs 18 0 = nI (rn + bs.length)
  | [], _, _, h => h
  | b :: bs, I, rn, h => by
    show ctr (cbody I rn b) (rn + 1) bs 18 0 = _
    rw [ctr_0 bs _ _ (by rw [cbody_18, up_at]), List.length_cons, Nat.add_assoc, Nat.add_comm 1]
theorem ctr_app : ∀ (bs cs : List Int32) (I : Ty) (rn : Nat), ctr (ctr I rn bs) (rn + bs.length) cs = ctr I rn (bs ++ cs)
  | [], _, _, _ => rfl
  | b :: bs, cs, I, rn => by
    show ctr (ctr (cbody I rn b) (rn + 1) bs) (rn + (bs.length + 1)) cs = ctr (cbody I rn b) (rn + 1) (bs ++ cs)
    rw [← ctr_app bs cs, show rn + (bs.length + 1) = rn + 1 + bs.length by omega]
set_option maxRecDepth 100000 in
set_option maxHeartbeats 400000 in
theorem c_X0_note {g : Gl} {I : Ty} {L : TL} {na nt ni m : Nat} {nl : Nat → Nat} (bz : Int32) (rn : Nat) (hrn : rn < 1000) (hre : I 18 0 = nI rn) : Ct g yX0_note cX0_note 2 none 0 0 0 [.ref (g.1 + 18), .int bz] I L (RT na nt ni) (NT nl) (NB + m) (Ps none (cbody I rn bz) L (RT na nt ni) (NT nl) (NB + m)) := by
  refine ct_of (by decide +kernel) (Nat.le_of_ble_eq_true rfl) (fun F hnm hr => ?_)
  clear hnm
  show V g F cX0_note RX0 2 0 0 [(0, .ref (g.1 + 18)), (1, .int bz)] [] I L (RT na nt ni) (NT nl) (NB + m) 0 0
  refine v_aload_n dX0_note_0 rfl 0 rfl ?_
  refine v_get (v := .int (I 18 0)) fa_X0_15 dX0_note_1 rfl (by decide) (ltn rfl) rfl ?_
  refine v_is hre ?_
  refine v_bipush (v := 20) dX0_note_4 (by decide) ?_
  refine v_icmp_geN (a := rn) (b := 20) (tgt := 19) dX0_note_6 (by decide) rfl rfl (by omega) (by omega) (fun h2 => ?_) (fun h2 => ?_)
  · refine v_aload_n dX0_note_19 rfl 0 rfl ?_
    refine v_dup dX0_note_20 rfl ?_
    refine v_get (v := .int (I 18 0)) fa_X0_15 dX0_note_21 rfl (by decide) (ltn rfl) rfl ?_
    refine v_is hre ?_
    refine v_iconst (v := 1) dX0_note_24 (by decide) ?_
    refine v_iadd dX0_note_25 ?_
    refine v_is (nx_add rfl rfl) ?_
    refine v_puti pa_X0_15 dX0_note_26 rfl (by decide) (ltn rfl) (by show 0 < 5; decide) rfl ?_
    exact v_vret hr dX0_note_29 (⟨rfl, (by unfold cbody; rw [ifc_f (Nat.not_lt.mpr h2)]), rfl, rfl, rfl, rfl⟩)
  · refine v_aload_n dX0_note_9 rfl 0 rfl ?_
    refine v_get (v := .ref (g.1 + 19)) fa_X0_11 dX0_note_10 rfl (by decide) (ltn rfl) rfl ?_
    refine v_aload_n dX0_note_13 rfl 0 rfl ?_
    refine v_get (v := .int (I 18 0)) fa_X0_15 dX0_note_14 rfl (by decide) (ltn rfl) rfl ?_
    refine v_is hre ?_
    refine v_iload_n dX0_note_17 rfl 1 rfl ?_
    refine v_iastore (len := 20) (j := rn) dX0_note_18 rfl (ltn rfl) rfl (by decide) rfl (by omega) ?_
    refine v_aload_n dX0_note_19 rfl 0 rfl ?_
    refine v_dup dX0_note_20 rfl ?_
    refine v_get (v := .int (I 18 0)) fa_X0_15 dX0_note_21 rfl (by decide) (ltn rfl) rfl ?_
    refine v_is hre ?_
    refine v_iconst (v := 1) dX0_note_24 (by decide) ?_
    refine v_iadd dX0_note_25 ?_
    refine v_is (nx_add rfl rfl) ?_
    refine v_puti pa_X0_15 dX0_note_26 rfl (by decide) (ltn rfl) (by show 0 < 5; decide) rfl ?_
    exact v_vret hr dX0_note_29 (⟨rfl, (by unfold cbody; rw [ifc_t h2]), rfl, rfl, rfl, rfl⟩)
