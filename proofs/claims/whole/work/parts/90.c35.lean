def bgI (I : Ty) (nu k va : Int32) : Ty := wr (wr (wr I 18 1 nu) 18 2 k) 18 3 va
set_option maxRecDepth 100000 in
set_option maxHeartbeats 1000000 in
theorem c_begin0 {g : Gl} {I : Ty} {L : TL} {na nt ni m : Nat} {nl : Nat → Nat} (nu : Int32) (kk : Nat) (va : Int32) (xz : Int32) (hk7 : kk < 7) (hre : I 18 0 = 0) : Ct g yX0_begin cX0_begin 6 (some .int) 8 0 0 [.ref (g.1 + 18), .int nu, .int (nI kk), .int va, .int 0, .int xz] I L (RT na nt ni) (NT nl) (NB + m) (Ps (some (.int (knV (nI kk) nu va xz))) (ctr (bgI I nu (nI kk) va) 0 (knT (nI kk))) L (RT na nt ni) (NT nl) (NB + m)) := by
  refine ct_of (by decide +kernel) (Nat.le_of_ble_eq_true rfl) (fun F hnm hr => ?_)
  clear hnm
  show V g F cX0_begin RX0 6 8 0 [(0, .ref (g.1 + 18)), (1, .int nu), (2, .int (nI kk)), (3, .int va), (4, .int 0), (5, .int xz)] [] I L (RT na nt ni) (NT nl) (NB + m) 0 0
  refine v_aload_n dX0_begin_0 rfl 0 rfl ?_
  refine v_iload_n dX0_begin_1 rfl 1 rfl ?_
  refine v_puti pa_X0_25 dX0_begin_2 rfl (by decide) (ltn rfl) (by show 1 < 5; decide) rfl ?_
  refine v_aload_n dX0_begin_5 rfl 0 rfl ?_
  refine v_iload_n dX0_begin_6 rfl 2 rfl ?_
  refine v_puti pa_X0_28 dX0_begin_7 rfl (by decide) (ltn rfl) (by show 2 < 5; decide) rfl ?_
  refine v_aload_n dX0_begin_10 rfl 0 rfl ?_
  refine v_iload_n dX0_begin_11 rfl 3 rfl ?_
  refine v_puti pa_X0_31 dX0_begin_12 rfl (by decide) (ltn rfl) (by show 3 < 5; decide) rfl ?_
  refine v_aload_n dX0_begin_15 rfl 0 rfl ?_
  refine v_iload dX0_begin_16 4 rfl ?_
  refine v_iload_n dX0_begin_18 rfl 2 rfl ?_
  refine v_iload dX0_begin_19 5 rfl ?_
  refine v_iconst (v := 0) dX0_begin_21 (by decide) ?_
  refine v_callVi (As := [.int 0, .int (nI kk), .int xz, .int 0]) (rest := []) lk_X0_34 (c_run0 (I := (wr (wr (wr I 18 1 nu) 18 2 (nI kk)) 18 3 va)) (rn := 0) xz 0 (by decide) (by decide) hre nu va rfl rfl kk hk7 rfl) dX0_begin_22 rfl (ltn rfl) rfl rfl (Nat.le_of_ble_eq_true rfl) (by decide) ?_
  exact v_iret hr dX0_begin_25 (⟨rfl, rfl, rfl, rfl, rfl, rfl⟩)
set_option maxRecDepth 100000 in
set_option maxHeartbeats 1000000 in
theorem c_begin1 {g : Gl} {I : Ty} {L : TL} {na nt ni m : Nat} {nl : Nat → Nat} (nu : Int32) (kk : Nat) (va : Int32) (xz : Int32) (hk7 : kk < 7) (hre : I 18 0 = 0) : Ct g yX0_begin cX0_begin 6 (some .int) 8 0 0 [.ref (g.1 + 18), .int nu, .int (nI kk), .int va, .int 1, .int xz] I L (RT na nt ni) (NT nl) (NB + m) (Ps (some (.int (drV (nI kk) nu va xz))) (ctr (bgI I nu (nI kk) va) 0 (drT (nI kk))) L (RT na nt ni) (NT nl) (NB + m)) := by
  refine ct_of (by decide +kernel) (Nat.le_of_ble_eq_true rfl) (fun F hnm hr => ?_)
  clear hnm
  show V g F cX0_begin RX0 6 8 0 [(0, .ref (g.1 + 18)), (1, .int nu), (2, .int (nI kk)), (3, .int va), (4, .int 1), (5, .int xz)] [] I L (RT na nt ni) (NT nl) (NB + m) 0 0
  refine v_aload_n dX0_begin_0 rfl 0 rfl ?_
  refine v_iload_n dX0_begin_1 rfl 1 rfl ?_
  refine v_puti pa_X0_25 dX0_begin_2 rfl (by decide) (ltn rfl) (by show 1 < 5; decide) rfl ?_
  refine v_aload_n dX0_begin_5 rfl 0 rfl ?_
  refine v_iload_n dX0_begin_6 rfl 2 rfl ?_
  refine v_puti pa_X0_28 dX0_begin_7 rfl (by decide) (ltn rfl) (by show 2 < 5; decide) rfl ?_
  refine v_aload_n dX0_begin_10 rfl 0 rfl ?_
  refine v_iload_n dX0_begin_11 rfl 3 rfl ?_
  refine v_puti pa_X0_31 dX0_begin_12 rfl (by decide) (ltn rfl) (by show 3 < 5; decide) rfl ?_
  refine v_aload_n dX0_begin_15 rfl 0 rfl ?_
  refine v_iload dX0_begin_16 4 rfl ?_
  refine v_iload_n dX0_begin_18 rfl 2 rfl ?_
  refine v_iload dX0_begin_19 5 rfl ?_
  refine v_iconst (v := 0) dX0_begin_21 (by decide) ?_
  refine v_callVi (As := [.int 1, .int (nI kk), .int xz, .int 0]) (rest := []) lk_X0_34 (c_run1 (I := (wr (wr (wr I 18 1 nu) 18 2 (nI kk)) 18 3 va)) (rn := 0) xz 0 (by decide) (by decide) hre nu va rfl rfl kk hk7 rfl) dX0_begin_22 rfl (ltn rfl) rfl rfl (Nat.le_of_ble_eq_true rfl) (by decide) ?_
  exact v_iret hr dX0_begin_25 (⟨rfl, rfl, rfl, rfl, rfl, rfl⟩)
set_option maxRecDepth 100000 in
set_option maxHeartbeats 1000000 in
theorem c_begin2 {g : Gl} {I : Ty} {L : TL} {na nt ni m : Nat} {nl : Nat → Nat} (nu : Int32) (kk : Nat) (va : Int32) (xz : Int32) (hk7 : kk < 7) (hre : I 18 0 = 0) : Ct g yX0_begin cX0_begin 6 (some .int) 8 0 0 [.ref (g.1 + 18), .int nu, .int (nI kk), .int va, .int 2, .int xz] I L (RT na nt ni) (NT nl) (NB + m) (Ps (some (.int (teV (nI kk) nu va xz))) (ctr (bgI I nu (nI kk) va) 0 (teT (nI kk))) L (RT na nt ni) (NT nl) (NB + m)) := by
  refine ct_of (by decide +kernel) (Nat.le_of_ble_eq_true rfl) (fun F hnm hr => ?_)
  clear hnm
  show V g F cX0_begin RX0 6 8 0 [(0, .ref (g.1 + 18)), (1, .int nu), (2, .int (nI kk)), (3, .int va), (4, .int 2), (5, .int xz)] [] I L (RT na nt ni) (NT nl) (NB + m) 0 0
  refine v_aload_n dX0_begin_0 rfl 0 rfl ?_
  refine v_iload_n dX0_begin_1 rfl 1 rfl ?_
  refine v_puti pa_X0_25 dX0_begin_2 rfl (by decide) (ltn rfl) (by show 1 < 5; decide) rfl ?_
  refine v_aload_n dX0_begin_5 rfl 0 rfl ?_
  refine v_iload_n dX0_begin_6 rfl 2 rfl ?_
  refine v_puti pa_X0_28 dX0_begin_7 rfl (by decide) (ltn rfl) (by show 2 < 5; decide) rfl ?_
  refine v_aload_n dX0_begin_10 rfl 0 rfl ?_
  refine v_iload_n dX0_begin_11 rfl 3 rfl ?_
  refine v_puti pa_X0_31 dX0_begin_12 rfl (by decide) (ltn rfl) (by show 3 < 5; decide) rfl ?_
  refine v_aload_n dX0_begin_15 rfl 0 rfl ?_
  refine v_iload dX0_begin_16 4 rfl ?_
  refine v_iload_n dX0_begin_18 rfl 2 rfl ?_
  refine v_iload dX0_begin_19 5 rfl ?_
  refine v_iconst (v := 0) dX0_begin_21 (by decide) ?_
  refine v_callVi (As := [.int 2, .int (nI kk), .int xz, .int 0]) (rest := []) lk_X0_34 (c_run2 (I := (wr (wr (wr I 18 1 nu) 18 2 (nI kk)) 18 3 va)) (rn := 0) xz 0 (by decide) (by decide) hre nu va rfl rfl kk hk7 rfl) dX0_begin_22 rfl (ltn rfl) rfl rfl (Nat.le_of_ble_eq_true rfl) (by decide) ?_
  exact v_iret hr dX0_begin_25 (⟨rfl, rfl, rfl, rfl, rfl, rfl⟩)
theorem inr3 {x : Int32} (h : inr x 3) : x = 0 ∨ x = 1 ∨ x = 2 := by
  obtain ⟨n, rfl, hn, _, _⟩ := inr_ex h (by omega)
  rcases (show n = 0 ∨ n = 1 ∨ n = 2 by omega) with e | e | e <;> subst e
  · exact Or.inl rfl
  · exact Or.inr (Or.inl rfl)
  · exact Or.inr (Or.inr rfl)
set_option maxRecDepth 100000 in
set_option maxHeartbeats 2000000 in
theorem c_X8_act {g : Gl} {I : Ty} {L : TL} {na nt ni m : Nat} {nl : Nat → Nat} (iz : Int32) (az : Int32) (xz : Int32) (pp : Nat) (hpp : pp ≤ 6) (hpe : I 23 1 = nI pp) (hkd : ∀ p, p < 6 → inr (I 25 p) 7) : Ct g yX8_act cX8_act 4 (some .int) 9 0 0 [.ref (g.1 + 0), .int iz, .int az, .int xz] I L (RT na nt ni) (NT nl) (NB + m) (PZ na ni m nl (some (.int (ifc (inr iz pp ∧ inr az 3) (actV (I 25 (tn iz)) iz (I 26 (tn iz)) az xz) 0))) (ifc (inr iz pp ∧ inr az 3) (ctr (bgI (wr I 18 0 0) iz (I 25 (tn iz)) (I 26 (tn iz))) 0 (actT (I 25 (tn iz)) az)) (wr I 18 0 0)) L) := by
  refine ct_of (by decide +kernel) (Nat.le_of_ble_eq_true rfl) (fun F hnm hr => ?_)
  clear hnm
  show V g F cX8_act RX8 4 9 0 [(0, .ref (g.1 + 0)), (1, .int iz), (2, .int az), (3, .int xz)] [] I L (RT na nt ni) (NT nl) (NB + m) 0 0
  refine v_aload_n dX8_act_0 rfl 0 rfl ?_
  refine v_get (v := .ref (g.1 + 18)) fa_X8_31 dX8_act_1 rfl (by decide) (ltn rfl) rfl ?_
  refine v_iconst (v := 0) dX8_act_4 (by decide) ?_
  refine v_puti pa_X8_268 dX8_act_5 rfl (by decide) (ltn rfl) (by show 0 < 5; decide) rfl ?_
  refine v_aload_n dX8_act_8 rfl 0 rfl ?_
  refine v_iload_n dX8_act_9 rfl 1 rfl ?_
  refine v_callVi (As := [.int iz]) (rest := []) lk_X8_74 (c_X8_isTraveller (I := (wr I 18 0 0)) iz pp hpp hpe) dX8_act_10 rfl (ltn rfl) rfl rfl (Nat.le_of_ble_eq_true rfl) (by decide) ?_
  refine v_ifb_eq (tgt := 25) dX8_act_13 (by decide) (fun h1 => ?_) (fun h1 => ?_)
  · refine v_iconst (v := 0) dX8_act_25 (by decide) ?_
    exact v_iret hr dX8_act_26 (⟨congrArg (fun z => some (Value.int z)) (by rw [ifc_f (show ¬ (inr iz pp ∧ inr az 3) from fun q => h1 q.1)]), ⟨_, (by rw [ifc_f (show ¬ (inr iz pp ∧ inr az 3) from fun q => h1 q.1)]; exact scC_self _)⟩, rfl, ⟨_, rfl⟩, rfl, rfl⟩)
  · have e2 := inr_nI h1
    have l3 := inr_lt h1
    refine v_iload_n dX8_act_16 rfl 2 rfl ?_
    refine v_if_lt (tgt := 25) dX8_act_17 (by decide) (fun h4 => ?_) (fun h4 => ?_)
    · -- az lt 0
      have r5 : ¬ inr az 3 := inr_lo h4
      refine v_iconst (v := 0) dX8_act_25 (by decide) ?_
      exact v_iret hr dX8_act_26 (⟨congrArg (fun z => some (Value.int z)) (by rw [ifc_f (show ¬ (inr iz pp ∧ inr az 3) from fun q => r5 q.2)]), ⟨_, (by rw [ifc_f (show ¬ (inr iz pp ∧ inr az 3) from fun q => r5 q.2)]; exact scC_self _)⟩, rfl, ⟨_, rfl⟩, rfl, rfl⟩)
    · -- az ge 0
      refine v_iload_n dX8_act_20 rfl 2 rfl ?_
      refine v_iconst (v := 3) dX8_act_21 (by decide) ?_
      refine v_icmp_lt (tgt := 27) dX8_act_22 (by decide) (fun h6 => ?_) (fun h6 => ?_)
      · -- az lt 3
        have r7 : inr az 3 := inr_mk (by omega) h4 (Int32.not_le.mpr h6)
        have e8 := inr_nI r7
        have l9 := inr_lt r7
        have hac : (inr iz pp ∧ inr az 3) := ⟨h1, r7⟩
        refine v_aload_n dX8_act_27 rfl 0 rfl ?_
        refine v_get (v := .ref (g.1 + 18)) fa_X8_31 dX8_act_28 rfl (by decide) (ltn rfl) rfl ?_
        refine v_iload_n dX8_act_31 rfl 1 rfl ?_
        refine v_aload_n dX8_act_32 rfl 0 rfl ?_
        refine v_get (v := .ref (g.1 + 23)) fa_X8_51 dX8_act_33 rfl (by decide) (ltn rfl) rfl ?_
        refine v_get (v := .ref (g.1 + 25)) fa_X8_77 dX8_act_36 rfl (by decide) (ltn rfl) rfl ?_
        refine v_iload_n dX8_act_39 rfl 1 rfl ?_
        refine v_iaload (len := 6) (j := (tn iz)) dX8_act_40 rfl (ltn rfl) rfl (by decide) e2 (by omega) ?_
        refine v_is (y := I 25 (tn iz)) (by first | rfl | simp [va_up]) ?_
        refine v_aload_n dX8_act_41 rfl 0 rfl ?_
        refine v_get (v := .ref (g.1 + 23)) fa_X8_51 dX8_act_42 rfl (by decide) (ltn rfl) rfl ?_
        refine v_get (v := .ref (g.1 + 26)) fa_X8_81 dX8_act_45 rfl (by decide) (ltn rfl) rfl ?_
        refine v_iload_n dX8_act_48 rfl 1 rfl ?_
        refine v_iaload (len := 6) (j := (tn iz)) dX8_act_49 rfl (ltn rfl) rfl (by decide) e2 (by omega) ?_
        refine v_is (y := I 26 (tn iz)) (by first | rfl | simp [va_up]) ?_
        refine v_iload_n dX8_act_50 rfl 2 rfl ?_
        refine v_iload_n dX8_act_51 rfl 3 rfl ?_
        obtain ⟨kk, hkk, hk7⟩ : ∃ kk, I 25 (tn iz) = nI kk ∧ kk < 7 := by obtain ⟨q, e, hq, _, _⟩ := inr_ex (hkd (tn iz) (by omega)) (by omega); exact ⟨q, e, hq⟩
        rcases inr3 r7 with ha | ha | ha
        · refine v_st (st2 := [.int xz, .int 0, .int (I 26 (tn iz)), .int (nI kk), .int iz, .ref (g.1 + 18)]) (by rw [← ha, ← hkk]) ?_
          refine v_callVi (As := [.int iz, .int (nI kk), .int (I 26 (tn iz)), .int 0, .int xz]) (rest := []) lk_X8_271 (c_begin0 (I := (wr I 18 0 0)) iz kk (I 26 (tn iz)) xz hk7 rfl) dX8_act_52 rfl (ltn rfl) rfl rfl (Nat.le_of_ble_eq_true rfl) (by decide) ?_
          exact v_iret hr dX8_act_55 (⟨congrArg (fun z => some (Value.int z)) (by rw [ifc_t hac]; unfold actV; rw [ifc_t ha, hkk]), ⟨_, (by rw [ifc_t hac]; unfold actT; rw [ifc_t ha, hkk]; exact scC_self _)⟩, rfl, ⟨_, rfl⟩, rfl, rfl⟩)
        · refine v_st (st2 := [.int xz, .int 1, .int (I 26 (tn iz)), .int (nI kk), .int iz, .ref (g.1 + 18)]) (by rw [← ha, ← hkk]) ?_
          refine v_callVi (As := [.int iz, .int (nI kk), .int (I 26 (tn iz)), .int 1, .int xz]) (rest := []) lk_X8_271 (c_begin1 (I := (wr I 18 0 0)) iz kk (I 26 (tn iz)) xz hk7 rfl) dX8_act_52 rfl (ltn rfl) rfl rfl (Nat.le_of_ble_eq_true rfl) (by decide) ?_
          exact v_iret hr dX8_act_55 (⟨congrArg (fun z => some (Value.int z)) (by rw [ifc_t hac]; unfold actV; rw [ifc_f (show ¬ az = 0 by rw [ha]; decide), ifc_t ha, hkk]), ⟨_, (by rw [ifc_t hac]; unfold actT; rw [ifc_f (show ¬ az = 0 by rw [ha]; decide), ifc_t ha, hkk]; exact scC_self _)⟩, rfl, ⟨_, rfl⟩, rfl, rfl⟩)
        · refine v_st (st2 := [.int xz, .int 2, .int (I 26 (tn iz)), .int (nI kk), .int iz, .ref (g.1 + 18)]) (by rw [← ha, ← hkk]) ?_
          refine v_callVi (As := [.int iz, .int (nI kk), .int (I 26 (tn iz)), .int 2, .int xz]) (rest := []) lk_X8_271 (c_begin2 (I := (wr I 18 0 0)) iz kk (I 26 (tn iz)) xz hk7 rfl) dX8_act_52 rfl (ltn rfl) rfl rfl (Nat.le_of_ble_eq_true rfl) (by decide) ?_
          exact v_iret hr dX8_act_55 (⟨congrArg (fun z => some (Value.int z)) (by rw [ifc_t hac]; unfold actV; rw [ifc_f (show ¬ az = 0 by rw [ha]; decide), ifc_f (show ¬ az = 1 by rw [ha]; decide), hkk]), ⟨_, (by rw [ifc_t hac]; unfold actT; rw [ifc_f (show ¬ az = 0 by rw [ha]; decide), ifc_f (show ¬ az = 1 by rw [ha]; decide), hkk]; exact scC_self _)⟩, rfl, ⟨_, rfl⟩, rfl, rfl⟩)
      · -- az ge 3
        have r10 : ¬ inr az 3 := inr_hi (by omega) (Int32.not_lt.mp h6)
        refine v_iconst (v := 0) dX8_act_25 (by decide) ?_
        exact v_iret hr dX8_act_26 (⟨congrArg (fun z => some (Value.int z)) (by rw [ifc_f (show ¬ (inr iz pp ∧ inr az 3) from fun q => r10 q.2)]), ⟨_, (by rw [ifc_f (show ¬ (inr iz pp ∧ inr az 3) from fun q => r10 q.2)]; exact scC_self _)⟩, rfl, ⟨_, rfl⟩, rfl, rfl⟩)
