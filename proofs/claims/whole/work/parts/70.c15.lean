theorem kz_gt {kz i : Nat} (hk : kz ≤ 41) (hi : i ≤ 41) : nI kz - 1 < nI i ↔ kz ≤ i := by
  rw [Int32.lt_iff_toInt_lt, show nI kz - 1 = nI kz - nI 1 from rfl, pk_sub_toInt (by omega) (by omega), nI_toInt (by omega)]; omega
theorem kz_ge {kz i : Nat} (hk : kz ≤ 41) (hi : i ≤ 41) : nI kz - 1 ≤ nI i ↔ kz ≤ i + 1 := by
  rw [Int32.le_iff_toInt_le, show nI kz - 1 = nI kz - nI 1 from rfl, pk_sub_toInt (by omega) (by omega), nI_toInt (by omega)]; omega
noncomputable def frsV (P : Nat → Prop) (n : Nat) : Int32 := ifc (frst P n = n) (-5) (nI (frst P n))
theorem frsV_hit {P : Nat → Prop} {n i : Nat} (hi : i < n) (h : P i) (hj : ∀ j, j < i → ¬ P j) : nI i = frsV P n := by
  unfold frsV; rw [frst_eq (by omega) (Or.inr h) hj, ifc_f (by omega)]
theorem frsV_no {P : Nat → Prop} {n : Nat} (hj : ∀ j, j < n → ¬ P j) : (-5 : Int32) = frsV P n := by
  unfold frsV; rw [frst_eq (Nat.le_refl _) (Or.inl rfl) hj, ifc_t rfl]
theorem St33_H (I : Ty) (z y : ZH) (f f2 : Nat → Int32) : va_up (mpH33 (va_up (mpH33 I z) 42 f) y) 42 f2 = va_up (mpH33 I y) 42 f2 := by
  unfold mpH33 mpC33
  funext a
  by_cases h33 : a = 33
  · subst h33; first | rfl | (funext jz; by_cases h9 : jz = 9; (subst h9; rfl); simp [va_up, h9]; done)
  by_cases h37 : a = 37
  · subst h37; rfl
  by_cases h39 : a = 39
  · subst h39; rfl
  by_cases h40 : a = 40
  · subst h40; rfl
  by_cases h42 : a = 42
  · subst h42; rfl
  simp [h33, h37, h39, h40, h42, va_up]
set_option maxRecDepth 100000 in
set_option maxHeartbeats 4000000 in
theorem c_hoursToGoal {g : Gl} {I : Ty} {L : TL} {na nt ni m : Nat} {nl : Nat → Nat} (pz : Nat) (pp : Nat) (hpp : pp ≤ 6) (hpe : I 33 1 = nI pp) (hpz : pz < 6) (kz : Nat) (hkz : kz ≤ 41) (hxm : 2 * nt ≤ m) (hsl : sln nl nt ≤ 100) (hok : okSt (I (scell nt)) (sln nl nt)) (hS : okS (mgC33 I)) (hch : ChOK (I 39)) (hG : okG (I 38)) : Ct g yX2_hoursToGoal cX2_hoursToGoal 4 (some .int) 5 0 0 [.ref (g.1 + 33), .int (nI pz), .int (nI kz - 1)] I L (RT na nt ni) (NT nl) (NB + m) (fun v_ I_ L_ R_ N_ n_ => v_ = some (.int (ifc (I 38 pz < 0) (-5) (frsV (fun k => (chrN (I 33 11) (I 34) (I 35) (I 36) (I 38) (I 41) pp (nsW I nl nt) (I (ncell nt) 0) (lessC 1000000) (mgH33 I) k).1.1 pz = I 38 pz) kz))) ∧ (∃ z f, I_ = va_up (mpH33 I z) 42 f) ∧ L_ = L ∧ R_ = RT na nt ni ∧ N_ = NT nl ∧ n_ = NB + m) := by
  refine ct_of (by decide +kernel) (Nat.le_of_ble_eq_true rfl) (fun F hnm hr => ?_)
  clear hnm
  show V g F cX2_hoursToGoal RX2 4 5 0 [(0, .ref (g.1 + 33)), (1, .int (nI pz)), (2, .int (nI kz - 1))] [] I L (RT na nt ni) (NT nl) (NB + m) 0 0
  refine v_aload_n dX2_hoursToGoal_0 rfl 0 rfl ?_
  refine v_get (v := .ref (g.1 + 38)) fa_X2_24 dX2_hoursToGoal_1 rfl (by decide) (ltn rfl) rfl ?_
  refine v_iload_n dX2_hoursToGoal_4 rfl 1 rfl ?_
  refine v_iaload (len := 6) (j := pz) dX2_hoursToGoal_5 rfl (ltn rfl) rfl (by decide) rfl (by omega) ?_
  refine v_if_ge (tgt := 12) dX2_hoursToGoal_6 (by decide) (fun h2 => ?_) (fun h2 => ?_)
  · have hgn := Int32.not_lt.mpr h2
    refine v_iconst (v := 0) dX2_hoursToGoal_12 (by decide) ?_
    refine v_istore_n (lv2 := [(3, .int 0), (0, .ref (g.1 + 33)), (1, .int (nI pz)), (2, .int (nI kz - 1))]) dX2_hoursToGoal_13 rfl (by decide) rfl ?_
    refine v_lv (lv2 := [(3, .int (nI 0)), (0, .ref (g.1 + 33)), (1, .int (nI pz)), (2, .int (nI kz - 1))]) (by rfl) ?_
    refine v_I (I2 := (va_up (mpH33 I (mgH33 I)) 42 (I 42))) (by exact St33_0 I) ?_
    refine dloop (P := fun i => ∀ (zq : ZH) (fq : Nat → Int32), ((i < kz → zq = (chrN (I 33 11) (I 34) (I 35) (I 36) (I 38) (I 41) pp (nsW I nl nt) (I (ncell nt) 0) (lessC 1000000) (mgH33 I) i)) ∧ ∀ j, j < i → ¬ (fun k => (chrN (I 33 11) (I 34) (I 35) (I 36) (I 38) (I 41) pp (nsW I nl nt) (I (ncell nt) 0) (lessC 1000000) (mgH33 I) k).1.1 pz = I 38 pz) j) → V g F cX2_hoursToGoal RX2 4 5 14 [(3, .int (nI i)), (0, .ref (g.1 + 33)), (1, .int (nI pz)), (2, .int (nI kz - 1))] [] (va_up (mpH33 I zq) 42 fq) L (RT na nt ni) (NT nl) (NB + m) 0 0) kz ?_ ?_ 0 (Nat.zero_le _) (mgH33 I) (I 42) (⟨fun _ => rfl, fun j h => absurd h (Nat.not_lt_zero j)⟩)
    · intro zq fq
      intro hinv
      refine v_iload_n dX2_hoursToGoal_14 rfl 0 rfl ?_
      refine v_iload_n dX2_hoursToGoal_15 rfl 3 rfl ?_
      refine v_icmp_gt (tgt := 60) dX2_hoursToGoal_16 (by decide) (fun _ => ?_) (fun h => absurd ((kz_gt hkz (by omega)).mpr (Nat.le_refl _)) h)
      refine v_bipush (v := (-5)) dX2_hoursToGoal_60 (by decide) ?_
      exact v_iret hr dX2_hoursToGoal_62 (⟨congrArg (fun z => some (Value.int z)) (by rw [ifc_f hgn]; exact frsV_no hinv.2), ⟨_, _, rfl⟩, rfl, rfl, rfl, rfl⟩)
    · intro i hi ih
      intro zq fq
      intro hinv
      have hze := hinv.1 hi
      have hTi := chrN_ok (go := I 33 11) (ga := I 34) (kd := I 35) (vv := I 36) (gl := I 38) (rw := I 41) (pp := pp) (ns := nsW I nl nt) (fd := (I (ncell nt) 0)) (less := lessC 1000000) (z := mgH33 I) hpp ⟨hS, hch⟩ hG i
      rw [← hze] at hTi
      refine v_iload_n dX2_hoursToGoal_14 rfl 0 rfl ?_
      refine v_iload_n dX2_hoursToGoal_15 rfl 3 rfl ?_
      refine v_icmp_gt (tgt := 60) dX2_hoursToGoal_16 (by decide) (fun h => by exfalso; have h5 := (kz_gt hkz (by omega)).mp h; omega) (fun _ => ?_)
      refine v_iload_n dX2_hoursToGoal_19 rfl 0 rfl ?_
      refine v_bipush (v := 40) dX2_hoursToGoal_20 (by decide) ?_
      refine v_icmp_gtN (a := i) (b := 40) (tgt := 60) dX2_hoursToGoal_22 (by decide) rfl rfl (by omega) (by omega) (fun h => by exfalso; omega) (fun h5 => ?_)
      refine v_aload_n dX2_hoursToGoal_25 rfl 1 rfl ?_
      refine v_get (v := .ref (g.1 + 37)) fa_X2_21 dX2_hoursToGoal_26 rfl (by decide) (ltn rfl) rfl ?_
      refine v_iload_n dX2_hoursToGoal_29 rfl 2 rfl ?_
      refine v_iaload (len := 6) (j := pz) dX2_hoursToGoal_30 rfl (ltn rfl) rfl (by decide) rfl (by omega) ?_
      refine v_is (y := zq.1.1 pz) (by rfl) ?_
      refine v_aload_n dX2_hoursToGoal_31 rfl 1 rfl ?_
      refine v_get (v := .ref (g.1 + 38)) fa_X2_24 dX2_hoursToGoal_32 rfl (by decide) (ltn rfl) rfl ?_
      refine v_iload_n dX2_hoursToGoal_35 rfl 2 rfl ?_
      refine v_iaload (len := 6) (j := pz) dX2_hoursToGoal_36 rfl (ltn rfl) rfl (by decide) rfl (by omega) ?_
      refine v_is (y := I 38 pz) (by rfl) ?_
      refine v_icmp_ne (tgt := 42) dX2_hoursToGoal_37 (by decide) (fun h7 => ?_) (fun h7 => ?_)
      · have hnp : ¬ (fun k => (chrN (I 33 11) (I 34) (I 35) (I 36) (I 38) (I 41) pp (nsW I nl nt) (I (ncell nt) 0) (lessC 1000000) (mgH33 I) k).1.1 pz = I 38 pz) i := by have q := h7; rw [hze] at q; exact q
        refine v_iload_n dX2_hoursToGoal_42 rfl 0 rfl ?_
        refine v_iload_n dX2_hoursToGoal_43 rfl 3 rfl ?_
        refine v_icmp_ge (tgt := 54) dX2_hoursToGoal_44 (by decide) (fun h9 => ?_) (fun h9 => ?_)
        · have hlast := (kz_ge hkz (by omega)).mp h9
          refine v_inc (v := nI (i + 1)) (lv2 := [(3, .int (nI (i + 1))), (0, .ref (g.1 + 33)), (1, .int (nI pz)), (2, .int (nI kz - 1))]) dX2_hoursToGoal_54 0 rfl (nx_inc rfl) (by decide) rfl ?_
          refine v_goto (tgt := 14) dX2_hoursToGoal_57 (by decide) ?_
          exact ih _ _ (⟨fun q => by exfalso; omega, lt_s hinv.2 hnp⟩)
        · refine v_aload_n dX2_hoursToGoal_47 rfl 1 rfl ?_
          refine v_iconst (v := 1) dX2_hoursToGoal_48 (by decide) ?_
          refine v_ldc dX2_hoursToGoal_49 uc_X2_99 ?_
          refine v_callVfv (As := [.int 1, .int 1000000]) (rest := []) lk_X2_100 (c_goHours_33 (I := (va_up (mpH33 I zq) 42 fq)) 1 1000000 pp hpp hpe (by decide) hxm hsl (by rw [St33_s]; exact hok) hTi.1 hTi.2 hG) dX2_hoursToGoal_51 rfl (ltn rfl) rfl rfl (Nat.le_of_ble_eq_true rfl) (by decide) (fun fq10 => ?_)
          refine v_I (I2 := (va_up (mpH33 I (chr1 (I 33 11) (I 34) (I 35) (I 36) (I 38) (I 41) pp (nsW I nl nt) (I (ncell nt) 0) (lessC 1000000) zq)) 42 fq10)) (by rw [St33_H, nsW_off St33_s, St33_n]; rfl) ?_
          refine v_inc (v := nI (i + 1)) (lv2 := [(3, .int (nI (i + 1))), (0, .ref (g.1 + 33)), (1, .int (nI pz)), (2, .int (nI kz - 1))]) dX2_hoursToGoal_54 0 rfl (nx_inc rfl) (by decide) rfl ?_
          refine v_goto (tgt := 14) dX2_hoursToGoal_57 (by decide) ?_
          exact ih _ _ (⟨fun _ => by rw [hze]; rfl, lt_s hinv.2 hnp⟩)
      · refine v_iload_n dX2_hoursToGoal_40 rfl 0 rfl ?_
        exact v_iret hr dX2_hoursToGoal_41 (⟨congrArg (fun z => some (Value.int z)) (by rw [ifc_f hgn]; exact frsV_hit hi (by have q := h7; rw [hze] at q; exact q) hinv.2), ⟨_, _, rfl⟩, rfl, rfl, rfl, rfl⟩)
  · refine v_bipush (v := (-5)) dX2_hoursToGoal_9 (by decide) ?_
    exact v_iret hr dX2_hoursToGoal_11 (⟨congrArg (fun z => some (Value.int z)) (by rw [ifc_t (Int32.not_le.mp h2)]), ⟨mgH33 I, I 42, St33_0 I⟩, rfl, rfl, rfl, rfl⟩)
set_option maxRecDepth 100000 in
set_option maxHeartbeats 400000 in
theorem c_allDrawn {g : Gl} {I : Ty} {L : TL} {na nt ni m : Nat} {nl : Nat → Nat}  (pp : Nat) (hpp : pp ≤ 6) (hpe : I 23 1 = nI pp) (hch : ChOK (I 29)) : Ct g yX2_allDrawn cX2_allDrawn 3 (some .int) 1 0 0 [.ref (g.1 + 23)] I L (RT na nt ni) (NT nl) (NB + m) (Ps (some (.int (nI (mnF (I 29) pp)))) (I) L (RT na nt ni) (NT nl) (NB + m)) := by
  refine ct_of (by decide +kernel) (Nat.le_of_ble_eq_true rfl) (fun F hnm hr => ?_)
  clear hnm
  show V g F cX2_allDrawn RX2 3 1 0 [(0, .ref (g.1 + 23))] [] I L (RT na nt ni) (NT nl) (NB + m) 0 0
  refine v_iconst (v := 0) dX2_allDrawn_0 (by decide) ?_
  refine v_istore_n (lv2 := [(1, .int 0), (0, .ref (g.1 + 23))]) dX2_allDrawn_1 rfl (by decide) rfl ?_
  refine v_iconst (v := 0) dX2_allDrawn_2 (by decide) ?_
  refine v_istore_n (lv2 := [(2, .int 0), (1, .int 0), (0, .ref (g.1 + 23))]) dX2_allDrawn_3 rfl (by decide) rfl ?_
  refine v_lv (lv2 := [(2, .int (nI 0)), (1, .int (nI (mnF (I 29) 0))), (0, .ref (g.1 + 23))]) (by rfl) ?_
  refine dloop (P := fun i => V g F cX2_allDrawn RX2 3 1 4 [(2, .int (nI i)), (1, .int (nI (mnF (I 29) i))), (0, .ref (g.1 + 23))] [] I L (RT na nt ni) (NT nl) (NB + m) 0 0) pp ?_ ?_ 0 (Nat.zero_le _)
  · refine v_iload_n dX2_allDrawn_4 rfl 0 rfl ?_
    refine v_aload_n dX2_allDrawn_5 rfl 2 rfl ?_
    refine v_get (v := .int (I 23 1)) fa_X2_53 dX2_allDrawn_6 rfl (by decide) (ltn rfl) rfl ?_
    refine v_is hpe ?_
    refine v_icmp_geN (a := pp) (b := pp) (tgt := 30) dX2_allDrawn_9 (by decide) rfl rfl (by omega) (by omega) (fun h1 => ?_) (fun h => by exfalso; omega)
    refine v_iload_n dX2_allDrawn_30 rfl 1 rfl ?_
    exact v_iret hr dX2_allDrawn_31 (psi rfl rfl)
  · intro i hi ih
    refine v_iload_n dX2_allDrawn_4 rfl 0 rfl ?_
    refine v_aload_n dX2_allDrawn_5 rfl 2 rfl ?_
    refine v_get (v := .int (I 23 1)) fa_X2_53 dX2_allDrawn_6 rfl (by decide) (ltn rfl) rfl ?_
    refine v_is hpe ?_
    refine v_icmp_geN (a := i) (b := pp) (tgt := 30) dX2_allDrawn_9 (by decide) rfl rfl (by omega) (by omega) (fun h => by exfalso; omega) (fun h2 => ?_)
    refine v_iload_n dX2_allDrawn_12 rfl 1 rfl ?_
    refine v_aload_n dX2_allDrawn_13 rfl 2 rfl ?_
    refine v_get (v := .ref (g.1 + 29)) fa_X2_27 dX2_allDrawn_14 rfl (by decide) (ltn rfl) rfl ?_
    refine v_iload_n dX2_allDrawn_17 rfl 0 rfl ?_
    refine v_iaload (len := 6) (j := i) dX2_allDrawn_18 rfl (ltn rfl) rfl (by decide) rfl (by omega) ?_
    refine v_callSi (As := [.int (I 29 i)]) (rest := [.int (nI (mnF (I 29) i))]) lk_X2_73 (c_bitCount (xz := (I 29 i)) (hch _ (by omega))) dX2_allDrawn_19 rfl rfl (Nat.le_of_ble_eq_true rfl) (by decide) ?_
    refine v_iadd dX2_allDrawn_22 ?_
    refine v_is (nx_add rfl rfl) ?_
    refine v_istore_n (lv2 := [(1, .int (nI ((mnF (I 29) i) + (bitc (I 29 i) 16)))), (2, .int (nI i)), (0, .ref (g.1 + 23))]) dX2_allDrawn_23 rfl (by decide) rfl ?_
    refine v_inc (v := nI (i + 1)) (lv2 := [(2, .int (nI (i + 1))), (1, .int (nI ((mnF (I 29) i) + (bitc (I 29 i) 16)))), (0, .ref (g.1 + 23))]) dX2_allDrawn_24 1 rfl (nx_inc rfl) (by decide) rfl ?_
    refine v_goto (tgt := 4) dX2_allDrawn_27 (by decide) ?_
    refine v_lv (lv2 := [(2, .int (nI (i + 1))), (1, .int (nI (mnF (I 29) (i + 1)))), (0, .ref (g.1 + 23))]) (by rfl) ?_
    exact ih
