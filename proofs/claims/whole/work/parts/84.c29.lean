set_option maxRecDepth 100000 in
set_option maxHeartbeats 2000000 in
theorem c_X8_can {g : Gl} {I : Ty} {L : TL} {na nt ni m : Nat} {nl : Nat → Nat} (pz : Int32) (wz : Int32) (pp : Nat) (hpp : pp ≤ 6) (hpe : I 23 1 = nI pp) (hxm : 2 * na ≤ m) (hsl : sln nl na ≤ 100) (hok : okSt (I (scell na)) (sln nl na)) (hS : okS (mgC23 I)) (hch : ChOK (I 29)) (hG : okG (I 28)) (sn : Nat) (hsn : sn ≤ 5) (hse : I 2 0 = nI sn) (hsw : ∀ k, k < sn → ∃ x, x < pp ∧ I 3 (3 * k) = nI x) (hst : ∀ k, k < sn → ∃ x, x ≤ 12 ∧ I 3 (3 * k + 1) = nI x) : Ct g yX8_can cX8_can 4 (some .int) 8 0 0 [.ref (g.1 + 0), .int pz, .int wz] I L (RT na nt ni) (NT nl) (NB + m) (PZ na ni m nl (some (.int (ifc (inr pz pp ∧ inr wz 2) (ifc (wz = 0) (nI (bitc (bsC (fun v => (∀ k, k < sn → (chT I nl na pp (I 24) (va_up (I 26) (tn pz) (nI v)) (I 27) (snO (I 3) sn) (tn (I 3 (3 * k + 1)))).1.1 (tn (I 3 (3 * k))) = I 3 (3 * k + 2))) 10) 16)) (ifc ((bsC (fun v => (∀ k, k < sn → (chT I nl na pp (I 24) (va_up (I 26) (tn pz) (nI v)) (I 27) (snO (I 3) sn) (tn (I 3 (3 * k + 1)))).1.1 (tn (I 3 (3 * k))) = I 3 (3 * k + 2))) 10) = 0) (-5) (nI (lowR (bsC (fun v => (∀ k, k < sn → (chT I nl na pp (I 24) (va_up (I 26) (tn pz) (nI v)) (I 27) (snO (I 3) sn) (tn (I 3 (3 * k + 1)))).1.1 (tn (I 3 (3 * k))) = I 3 (3 * k + 2))) 10))))) (-1)))) (I) L) := by
  refine ct_of (by decide +kernel) (Nat.le_of_ble_eq_true rfl) (fun F hnm hr => ?_)
  clear hnm
  show V g F cX8_can RX8 4 8 0 [(0, .ref (g.1 + 0)), (1, .int pz), (2, .int wz)] [] I L (RT na nt ni) (NT nl) (NB + m) 0 0
  refine v_aload_n dX8_can_0 rfl 0 rfl ?_
  refine v_iload_n dX8_can_1 rfl 1 rfl ?_
  refine v_callVi (As := [.int pz]) (rest := []) lk_X8_74 (c_X8_isTraveller pz pp hpp hpe) dX8_can_2 rfl (ltn rfl) rfl rfl (Nat.le_of_ble_eq_true rfl) (by decide) ?_
  refine v_ifb_eq (tgt := 17) dX8_can_5 (by decide) (fun h1 => ?_) (fun h1 => ?_)
  · -- not inr pz pp
    refine v_iconst (v := (-1)) dX8_can_17 (by decide) ?_
    exact v_iret hr dX8_can_18 (⟨congrArg (fun z => some (Value.int z)) (by first | rfl | (simp only [bq, ifc_T, ifc_F, inr_m1, and_true, true_and, and_false, false_and, or_true, true_or, or_false, false_or, not_true_eq_false, not_false_eq_true, and_self, or_self, h1]; done) | (simp [bq, ifc_T, ifc_F, inr_m1, h1]; done) | ((try simp only [bq]); repeat (first | rfl | (refine eq_t ?_ ?_; focus (first | omega | assumption | (simp [inr_m1, h1]; done) | (simp [inr_m1, h1]; omega) | (clear hr; (try clear hkn); simp_all; done))) | (refine eq_f ?_ ?_; focus (first | omega | assumption | (simp [inr_m1, h1]; done) | (simp [inr_m1, h1]; omega) | (clear hr; (try clear hkn); simp_all; done))) | (exfalso; clear hr; (try clear hkn); simp_all; done)))), ⟨_, scC_self _⟩, rfl, ⟨_, rfl⟩, rfl, rfl⟩)
  · -- inr pz pp
    obtain ⟨P2, rfl, l3, t4, u5⟩ := inr_ex h1 (by omega)
    refine v_iload_n dX8_can_8 rfl 2 rfl ?_
    refine v_if_lt (tgt := 17) dX8_can_9 (by decide) (fun h6 => ?_) (fun h6 => ?_)
    · -- wz lt 0
      have r7 : ¬ inr wz 2 := inr_lo h6
      -- not inr wz 2
      refine v_iconst (v := (-1)) dX8_can_17 (by decide) ?_
      exact v_iret hr dX8_can_18 (⟨congrArg (fun z => some (Value.int z)) (by first | rfl | (simp only [bq, ifc_T, ifc_F, inr_m1, and_true, true_and, and_false, false_and, or_true, true_or, or_false, false_or, not_true_eq_false, not_false_eq_true, and_self, or_self, h1, t4, u5, l3, h6, r7]; done) | (simp [bq, ifc_T, ifc_F, inr_m1, h1, t4, u5, l3, h6, r7]; done) | ((try simp only [bq]); repeat (first | rfl | (refine eq_t ?_ ?_; focus (first | omega | assumption | (simp [inr_m1, h1, t4, u5, l3, h6, r7]; done) | (simp [inr_m1, h1, t4, u5, l3, h6, r7]; omega) | (simp only [u5]; omega) | (clear hr; (try clear hkn); simp_all; done))) | (refine eq_f ?_ ?_; focus (first | omega | assumption | (simp [inr_m1, h1, t4, u5, l3, h6, r7]; done) | (simp [inr_m1, h1, t4, u5, l3, h6, r7]; omega) | (simp only [u5]; omega) | (clear hr; (try clear hkn); simp_all; done))) | (simp only [t4]; done) | (exfalso; clear hr; (try clear hkn); simp_all; done)))), ⟨_, scC_self _⟩, rfl, ⟨_, rfl⟩, rfl, rfl⟩)
    · -- wz ge 0
      refine v_iload_n dX8_can_12 rfl 2 rfl ?_
      refine v_iconst (v := 1) dX8_can_13 (by decide) ?_
      refine v_icmp_le (tgt := 19) dX8_can_14 (by decide) (fun h8 => ?_) (fun h8 => ?_)
      · -- wz le 1
        have r9 : inr wz 2 := inr_mk2 (k := 1) (by omega) h6 (Int32.not_lt.mpr h8)
        -- inr wz 2
        have h8n := Int32.not_lt.mpr h8
        refine v_aload_n dX8_can_19 rfl 0 rfl ?_
        refine v_iload_n dX8_can_20 rfl 1 rfl ?_
        refine v_callV (As := [.int (nI P2)]) (rest := []) lk_X8_199 (c_X8_valuesOf P2 pp hpp hpe (by omega) hxm hsl hok hS hch hG sn hsn hse hsw hst) dX8_can_21 rfl (ltn rfl) rfl rfl (Nat.le_of_ble_eq_true rfl) (by decide) (Nat.zero_le _) (Nat.zero_le _) (fun v I10 L_ R_ N_ n_ q11 => ?_)
        obtain ⟨rfl, ⟨kp12, rfl⟩, rfl, ⟨n213, rfl⟩, rfl, rfl⟩ := q11
        refine v_st (st2 := [.int (bsC (fun v => (∀ k, k < sn → (chT I nl na pp (I 24) (va_up (I 26) P2 (nI v)) (I 27) (snO (I 3) sn) (tn (I 3 (3 * k + 1)))).1.1 (tn (I 3 (3 * k))) = I 3 (3 * k + 2))) 10)]) rfl ?_
        refine v_istore_n (lv2 := [(3, .int (bsC (fun v => (∀ k, k < sn → (chT I nl na pp (I 24) (va_up (I 26) P2 (nI v)) (I 27) (snO (I 3) sn) (tn (I 3 (3 * k + 1)))).1.1 (tn (I 3 (3 * k))) = I 3 (3 * k + 2))) 10)), (0, .ref (g.1 + 0)), (1, .int (nI P2)), (2, .int wz)]) dX8_can_24 rfl (by decide) rfl ?_
        refine v_iload_n dX8_can_25 rfl 3 rfl ?_
        refine v_if_ne (tgt := 34) dX8_can_26 (by decide) (fun h14 => ?_) (fun h14 => ?_)
        · -- wz ne 0
          refine v_iload_n dX8_can_34 rfl 0 rfl ?_
          refine v_if_ne (tgt := 43) dX8_can_35 (by decide) (fun h16 => ?_) (fun h16 => ?_)
          · have hv0 := h16
            refine v_iload_n dX8_can_43 rfl 0 rfl ?_
            refine v_callSi (As := [.int (bsC (fun v => (∀ k, k < sn → (chT I nl na pp (I 24) (va_up (I 26) P2 (nI v)) (I 27) (snO (I 3) sn) (tn (I 3 (3 * k + 1)))).1.1 (tn (I 3 (3 * k))) = I 3 (3 * k + 2))) 10)]) (rest := []) lk_X8_207 (c_X7_least (bsC (fun v => (∀ k, k < sn → (chT I nl na pp (I 24) (va_up (I 26) P2 (nI v)) (I 27) (snO (I 3) sn) (tn (I 3 (3 * k + 1)))).1.1 (tn (I 3 (3 * k))) = I 3 (3 * k + 2))) 10) (bsC_16 _ 10 (by decide)) hv0) dX8_can_44 rfl rfl (Nat.le_of_ble_eq_true rfl) (by decide) ?_
            exact v_iret hr dX8_can_47 (⟨congrArg (fun z => some (Value.int z)) (by first | rfl | (simp only [bq, ifc_T, ifc_F, inr_m1, and_true, true_and, and_false, false_and, or_true, true_or, or_false, false_or, not_true_eq_false, not_false_eq_true, and_self, or_self, h1, t4, u5, l3, h6, h8, r9, h8n, h14, hv0]; done) | (simp [bq, ifc_T, ifc_F, inr_m1, h1, t4, u5, l3, h6, h8, r9, h8n, h14, hv0]; done) | ((try simp only [bq]); repeat (first | rfl | (refine eq_t ?_ ?_; focus (first | omega | assumption | (simp [inr_m1, h1, t4, u5, l3, h6, h8, r9, h8n, h14, hv0]; done) | (simp [inr_m1, h1, t4, u5, l3, h6, h8, r9, h8n, h14, hv0]; omega) | (simp only [u5]; omega) | (clear hr; (try clear hkn); simp_all; done))) | (refine eq_f ?_ ?_; focus (first | omega | assumption | (simp [inr_m1, h1, t4, u5, l3, h6, h8, r9, h8n, h14, hv0]; done) | (simp [inr_m1, h1, t4, u5, l3, h6, h8, r9, h8n, h14, hv0]; omega) | (simp only [u5]; omega) | (clear hr; (try clear hkn); simp_all; done))) | (simp only [t4]; done) | (exfalso; clear hr; (try clear hkn); simp_all; done)))), ⟨_, rfl⟩, rfl, ⟨_, rfl⟩, rfl, rfl⟩)
          · refine v_bipush (v := (-5)) dX8_can_38 (by decide) ?_
            refine v_goto (tgt := 47) dX8_can_40 (by decide) ?_
            exact v_iret hr dX8_can_47 (⟨congrArg (fun z => some (Value.int z)) (by first | rfl | (simp only [bq, ifc_T, ifc_F, inr_m1, and_true, true_and, and_false, false_and, or_true, true_or, or_false, false_or, not_true_eq_false, not_false_eq_true, and_self, or_self, h1, t4, u5, l3, h6, h8, r9, h8n, h14, h16]; done) | (simp [bq, ifc_T, ifc_F, inr_m1, h1, t4, u5, l3, h6, h8, r9, h8n, h14, h16]; done) | ((try simp only [bq]); repeat (first | rfl | (refine eq_t ?_ ?_; focus (first | omega | assumption | (simp [inr_m1, h1, t4, u5, l3, h6, h8, r9, h8n, h14, h16]; done) | (simp [inr_m1, h1, t4, u5, l3, h6, h8, r9, h8n, h14, h16]; omega) | (simp only [u5]; omega) | (clear hr; (try clear hkn); simp_all; done))) | (refine eq_f ?_ ?_; focus (first | omega | assumption | (simp [inr_m1, h1, t4, u5, l3, h6, h8, r9, h8n, h14, h16]; done) | (simp [inr_m1, h1, t4, u5, l3, h6, h8, r9, h8n, h14, h16]; omega) | (simp only [u5]; omega) | (clear hr; (try clear hkn); simp_all; done))) | (simp only [t4]; done) | (exfalso; clear hr; (try clear hkn); simp_all; done)))), ⟨_, rfl⟩, rfl, ⟨_, rfl⟩, rfl, rfl⟩)
        · -- wz eq 0
          refine v_iload_n dX8_can_29 rfl 0 rfl ?_
          refine v_callSi (As := [.int (bsC (fun v => (∀ k, k < sn → (chT I nl na pp (I 24) (va_up (I 26) P2 (nI v)) (I 27) (snO (I 3) sn) (tn (I 3 (3 * k + 1)))).1.1 (tn (I 3 (3 * k))) = I 3 (3 * k + 2))) 10)]) (rest := []) lk_X8_202 (c_bitCount (xz := (bsC (fun v => (∀ k, k < sn → (chT I nl na pp (I 24) (va_up (I 26) P2 (nI v)) (I 27) (snO (I 3) sn) (tn (I 3 (3 * k + 1)))).1.1 (tn (I 3 (3 * k))) = I 3 (3 * k + 2))) 10)) (bsC_16 _ 10 (by decide))) dX8_can_30 rfl rfl (Nat.le_of_ble_eq_true rfl) (by decide) ?_
          exact v_iret hr dX8_can_33 (⟨congrArg (fun z => some (Value.int z)) (by first | rfl | (simp only [bq, ifc_T, ifc_F, inr_m1, and_true, true_and, and_false, false_and, or_true, true_or, or_false, false_or, not_true_eq_false, not_false_eq_true, and_self, or_self, h1, t4, u5, l3, h6, h8, r9, h8n, h14]; done) | (simp [bq, ifc_T, ifc_F, inr_m1, h1, t4, u5, l3, h6, h8, r9, h8n, h14]; done) | ((try simp only [bq]); repeat (first | rfl | (refine eq_t ?_ ?_; focus (first | omega | assumption | (simp [inr_m1, h1, t4, u5, l3, h6, h8, r9, h8n, h14]; done) | (simp [inr_m1, h1, t4, u5, l3, h6, h8, r9, h8n, h14]; omega) | (simp only [u5]; omega) | (clear hr; (try clear hkn); simp_all; done))) | (refine eq_f ?_ ?_; focus (first | omega | assumption | (simp [inr_m1, h1, t4, u5, l3, h6, h8, r9, h8n, h14]; done) | (simp [inr_m1, h1, t4, u5, l3, h6, h8, r9, h8n, h14]; omega) | (simp only [u5]; omega) | (clear hr; (try clear hkn); simp_all; done))) | (simp only [t4]; done) | (exfalso; clear hr; (try clear hkn); simp_all; done)))), ⟨_, rfl⟩, rfl, ⟨_, rfl⟩, rfl, rfl⟩)
      · -- wz gt 1
        have r17 : ¬ inr wz 2 := inr_gt (k := 1) (by omega) (Int32.not_le.mp h8)
        -- not inr wz 2
        have h8n := Int32.not_le.mp h8
        refine v_iconst (v := (-1)) dX8_can_17 (by decide) ?_
        exact v_iret hr dX8_can_18 (⟨congrArg (fun z => some (Value.int z)) (by first | rfl | (simp only [bq, ifc_T, ifc_F, inr_m1, and_true, true_and, and_false, false_and, or_true, true_or, or_false, false_or, not_true_eq_false, not_false_eq_true, and_self, or_self, h1, t4, u5, l3, h6, h8, r17, h8n]; done) | (simp [bq, ifc_T, ifc_F, inr_m1, h1, t4, u5, l3, h6, h8, r17, h8n]; done) | ((try simp only [bq]); repeat (first | rfl | (refine eq_t ?_ ?_; focus (first | omega | assumption | (simp [inr_m1, h1, t4, u5, l3, h6, h8, r17, h8n]; done) | (simp [inr_m1, h1, t4, u5, l3, h6, h8, r17, h8n]; omega) | (simp only [u5]; omega) | (clear hr; (try clear hkn); simp_all; done))) | (refine eq_f ?_ ?_; focus (first | omega | assumption | (simp [inr_m1, h1, t4, u5, l3, h6, h8, r17, h8n]; done) | (simp [inr_m1, h1, t4, u5, l3, h6, h8, r17, h8n]; omega) | (simp only [u5]; omega) | (clear hr; (try clear hkn); simp_all; done))) | (simp only [t4]; done) | (exfalso; clear hr; (try clear hkn); simp_all; done)))), ⟨_, scC_self _⟩, rfl, ⟨_, rfl⟩, rfl, rfl⟩)
set_option maxRecDepth 100000 in
set_option maxHeartbeats 4000000 in
theorem c_X8_of {g : Gl} {I : Ty} {L : TL} {na nt ni m : Nat} {nl : Nat → Nat} (pz : Int32) (wz : Int32) (pp : Nat) (hpp : pp ≤ 6) (hpe : I 23 1 = nI pp) (hxm : 2 * na ≤ m) (hsl : sln nl na ≤ 100) (hok : okSt (I (scell na)) (sln nl na)) (hS : okS (mgC23 I)) (hch : ChOK (I 29)) (hG : okG (I 28)) (sn : Nat) (hsn : sn ≤ 5) (hse : I 2 0 = nI sn) (hsw : ∀ k, k < sn → ∃ x, x < pp ∧ I 3 (3 * k) = nI x) (hst : ∀ k, k < sn → ∃ x, x ≤ 12 ∧ I 3 (3 * k + 1) = nI x) : Ct g yX8_of cX8_of 3 (some .int) 8 0 0 [.ref (g.1 + 0), .int pz, .int wz] I L (RT na nt ni) (NT nl) (NB + m) (PZ na ni m nl (some (.int (ifc (inr pz pp) (ifc (wz = 0) (I 25 (tn pz)) (ifc (wz = 1) (I 26 (tn pz)) (ifc (wz = 2) (I 27 (tn pz)) (ifc (wz = 3) (ifc (I 28 (tn pz) < 0) (-5) (I 28 (tn pz))) (ifc (wz = 4) (I 29 (tn pz)) (ifc (wz = 5) (I 30 (tn pz)) (ifc (wz = 6) ((ifc (I 28 (tn pz) < 0) (-5) (frsV (fun k => (chT I nl na pp (I 24) (I 26) (I 27) ((1 : Int32) <<< (nI (tn pz) &&& 31)) k).1.1 (tn pz) = I 28 (tn pz)) 41))) (ifc (wz = 7) (refv (fun q => (Wl (I 24) (I 25) (I 26) (I 31) pp (nsW I nl na) (I 23 9) (I 27) (I 29) (tn pz) q)) 16) (ifc (wz = 8) (ifc (I 28 (tn pz) < 0) (-5) (lnC (I 29) (refv (fun q => (Wl (I 24) (I 25) (I 26) (I 31) pp (nsW I nl na) (I 23 9) (I 27) (I 29) (tn pz) q)) 16) pp (tn pz) (tn (I 27 (tn pz))) (tn (I 28 (tn pz))) (2 ^ pp)).2) (ifc (wz = 9) ((kyC (fun cq k => (chT I nl na pp (va_up (I 24) cq 9) (I 26) (I 27) ((1 : Int32) <<< (nI (tn pz) &&& 31)) k).1.1 (tn pz) = I 28 (tn pz)) (I 28 (tn pz) < 0) (ifc (I 28 (tn pz) < 0) 41 (frst (fun k => (chT I nl na pp (I 24) (I 26) (I 27) ((1 : Int32) <<< (nI (tn pz) &&& 31)) k).1.1 (tn pz) = I 28 (tn pz)) 41)) 16).1) (ifc (wz = 10) (bsC (fun c => (∀ k, k < sn → (chT I nl na pp (I 24) (I 26) (va_up (I 27) (tn pz) (nI c)) (snO (I 3) sn) (tn (I 3 (3 * k + 1)))).1.1 (tn (I 3 (3 * k))) = I 3 (3 * k + 2))) 16) (-1)))))))))))) (-1)))) (I) L) := by
  refine ct_of (by decide +kernel) (Nat.le_of_ble_eq_true rfl) (fun F hnm hr => ?_)
  clear hnm
  show V g F cX8_of RX8 3 8 0 [(0, .ref (g.1 + 0)), (1, .int pz), (2, .int wz)] [] I L (RT na nt ni) (NT nl) (NB + m) 0 0
  refine v_aload_n dX8_of_0 rfl 0 rfl ?_
  refine v_iload_n dX8_of_1 rfl 1 rfl ?_
  refine v_callVi (As := [.int pz]) (rest := []) lk_X8_74 (c_X8_isTraveller pz pp hpp hpe) dX8_of_2 rfl (ltn rfl) rfl rfl (Nat.le_of_ble_eq_true rfl) (by decide) ?_
  refine v_ifb_ne (tgt := 10) dX8_of_5 (by decide) (fun h1 => ?_) (fun h1 => ?_)
  · -- inr pz pp
    obtain ⟨P2, rfl, l3, t4, u5⟩ := inr_ex h1 (by omega)
    refine v_iload_n dX8_of_10 rfl 2 rfl ?_
    by_cases k6_0 : wz = 0
    · refine v_is k6_0 ?_
      refine v_tabIn (off := 57) (tgt := 68) dX8_of_11 (by decide) (by decide) (by decide) (by decide) ?_
      refine v_aload_n dX8_of_68 rfl 0 rfl ?_
      refine v_get (v := .ref (g.1 + 23)) fa_X8_51 dX8_of_69 rfl (by decide) (ltn rfl) rfl ?_
      refine v_get (v := .ref (g.1 + 25)) fa_X8_77 dX8_of_72 rfl (by decide) (ltn rfl) rfl ?_
      refine v_iload_n dX8_of_75 rfl 1 rfl ?_
      refine v_iaload (len := 6) (j := P2) dX8_of_76 rfl (ltn rfl) rfl (by decide) rfl (by omega) ?_
      exact v_iret hr dX8_of_77 (⟨congrArg (fun z => some (Value.int z)) (by rw [ifc_t h1, t4, ifc_t k6_0]), ⟨_, scC_self _⟩, rfl, ⟨_, rfl⟩, rfl, rfl⟩)
    by_cases k6_1 : wz = 1
    · refine v_is k6_1 ?_
      refine v_tabIn (off := 67) (tgt := 78) dX8_of_11 (by decide) (by decide) (by decide) (by decide) ?_
      refine v_aload_n dX8_of_78 rfl 0 rfl ?_
      refine v_get (v := .ref (g.1 + 23)) fa_X8_51 dX8_of_79 rfl (by decide) (ltn rfl) rfl ?_
      refine v_get (v := .ref (g.1 + 26)) fa_X8_81 dX8_of_82 rfl (by decide) (ltn rfl) rfl ?_
      refine v_iload_n dX8_of_85 rfl 1 rfl ?_
      refine v_iaload (len := 6) (j := P2) dX8_of_86 rfl (ltn rfl) rfl (by decide) rfl (by omega) ?_
      exact v_iret hr dX8_of_87 (⟨congrArg (fun z => some (Value.int z)) (by rw [ifc_t h1, t4, ifc_f k6_0, ifc_t k6_1]), ⟨_, scC_self _⟩, rfl, ⟨_, rfl⟩, rfl, rfl⟩)
    by_cases k6_2 : wz = 2
    · refine v_is k6_2 ?_
      refine v_tabIn (off := 77) (tgt := 88) dX8_of_11 (by decide) (by decide) (by decide) (by decide) ?_
      refine v_aload_n dX8_of_88 rfl 0 rfl ?_
      refine v_get (v := .ref (g.1 + 23)) fa_X8_51 dX8_of_89 rfl (by decide) (ltn rfl) rfl ?_
      refine v_get (v := .ref (g.1 + 27)) fa_X8_84 dX8_of_92 rfl (by decide) (ltn rfl) rfl ?_
      refine v_iload_n dX8_of_95 rfl 1 rfl ?_
      refine v_iaload (len := 6) (j := P2) dX8_of_96 rfl (ltn rfl) rfl (by decide) rfl (by omega) ?_
      exact v_iret hr dX8_of_97 (⟨congrArg (fun z => some (Value.int z)) (by rw [ifc_t h1, t4, ifc_f k6_0, ifc_f k6_1, ifc_t k6_2]), ⟨_, scC_self _⟩, rfl, ⟨_, rfl⟩, rfl, rfl⟩)
    by_cases k6_3 : wz = 3
    · refine v_is k6_3 ?_
      refine v_tabIn (off := 87) (tgt := 98) dX8_of_11 (by decide) (by decide) (by decide) (by decide) ?_
      refine v_aload_n dX8_of_98 rfl 0 rfl ?_
      refine v_get (v := .ref (g.1 + 23)) fa_X8_51 dX8_of_99 rfl (by decide) (ltn rfl) rfl ?_
      refine v_get (v := .ref (g.1 + 28)) fa_X8_87 dX8_of_102 rfl (by decide) (ltn rfl) rfl ?_
      refine v_iload_n dX8_of_105 rfl 1 rfl ?_
      refine v_iaload (len := 6) (j := P2) dX8_of_106 rfl (ltn rfl) rfl (by decide) rfl (by omega) ?_
      refine v_callSi (As := [.int (I 28 P2)]) (rest := []) lk_X8_90 (c_X8_orMissing (I 28 P2)) dX8_of_107 rfl rfl (Nat.le_of_ble_eq_true rfl) (by decide) ?_
      exact v_iret hr dX8_of_110 (⟨congrArg (fun z => some (Value.int z)) (by rw [ifc_t h1, t4, ifc_f k6_0, ifc_f k6_1, ifc_f k6_2, ifc_t k6_3]), ⟨_, scC_self _⟩, rfl, ⟨_, rfl⟩, rfl, rfl⟩)
    by_cases k6_4 : wz = 4
    · refine v_is k6_4 ?_
      refine v_tabIn (off := 100) (tgt := 111) dX8_of_11 (by decide) (by decide) (by decide) (by decide) ?_
      refine v_aload_n dX8_of_111 rfl 0 rfl ?_
      refine v_get (v := .ref (g.1 + 23)) fa_X8_51 dX8_of_112 rfl (by decide) (ltn rfl) rfl ?_
      refine v_get (v := .ref (g.1 + 29)) fa_X8_94 dX8_of_115 rfl (by decide) (ltn rfl) rfl ?_
      refine v_iload_n dX8_of_118 rfl 1 rfl ?_
      refine v_iaload (len := 6) (j := P2) dX8_of_119 rfl (ltn rfl) rfl (by decide) rfl (by omega) ?_
      exact v_iret hr dX8_of_120 (⟨congrArg (fun z => some (Value.int z)) (by rw [ifc_t h1, t4, ifc_f k6_0, ifc_f k6_1, ifc_f k6_2, ifc_f k6_3, ifc_t k6_4]), ⟨_, scC_self _⟩, rfl, ⟨_, rfl⟩, rfl, rfl⟩)
    by_cases k6_5 : wz = 5
    · refine v_is k6_5 ?_
      refine v_tabIn (off := 110) (tgt := 121) dX8_of_11 (by decide) (by decide) (by decide) (by decide) ?_
      refine v_aload_n dX8_of_121 rfl 0 rfl ?_
      refine v_get (v := .ref (g.1 + 23)) fa_X8_51 dX8_of_122 rfl (by decide) (ltn rfl) rfl ?_
      refine v_get (v := .ref (g.1 + 30)) fa_X8_97 dX8_of_125 rfl (by decide) (ltn rfl) rfl ?_
      refine v_iload_n dX8_of_128 rfl 1 rfl ?_
      refine v_iaload (len := 6) (j := P2) dX8_of_129 rfl (ltn rfl) rfl (by decide) rfl (by omega) ?_
      exact v_iret hr dX8_of_130 (⟨congrArg (fun z => some (Value.int z)) (by rw [ifc_t h1, t4, ifc_f k6_0, ifc_f k6_1, ifc_f k6_2, ifc_f k6_3, ifc_f k6_4, ifc_t k6_5]), ⟨_, scC_self _⟩, rfl, ⟨_, rfl⟩, rfl, rfl⟩)
    by_cases k6_6 : wz = 6
    · refine v_is k6_6 ?_
      refine v_tabIn (off := 120) (tgt := 131) dX8_of_11 (by decide) (by decide) (by decide) (by decide) ?_
      refine v_aload_n dX8_of_131 rfl 0 rfl ?_
      refine v_iload_n dX8_of_132 rfl 1 rfl ?_
      refine v_callV (As := [.int (nI P2)]) (rest := []) lk_X8_100 (c_X8_thereOf P2 pp hpp hpe (by omega) hxm hsl hok hS hch hG) dX8_of_133 rfl (ltn rfl) rfl rfl (Nat.le_of_ble_eq_true rfl) (by decide) (Nat.zero_le _) (Nat.zero_le _) (fun v I7 L_ R_ N_ n_ q8 => ?_)
      obtain ⟨rfl, ⟨kp9, rfl⟩, rfl, ⟨n210, rfl⟩, rfl, rfl⟩ := q8
      refine v_st (st2 := [.int (ifc (I 28 P2 < 0) (-5) (frsV (fun k => (chT I nl na pp (I 24) (I 26) (I 27) ((1 : Int32) <<< (nI P2 &&& 31)) k).1.1 P2 = I 28 P2) 41))]) rfl ?_
      exact v_iret hr dX8_of_136 (⟨congrArg (fun z => some (Value.int z)) (by rw [ifc_t h1, t4, ifc_f k6_0, ifc_f k6_1, ifc_f k6_2, ifc_f k6_3, ifc_f k6_4, ifc_f k6_5, ifc_t k6_6]), ⟨_, rfl⟩, rfl, ⟨_, rfl⟩, rfl, rfl⟩)
    by_cases k6_7 : wz = 7
    · refine v_is k6_7 ?_
      refine v_tabIn (off := 126) (tgt := 137) dX8_of_11 (by decide) (by decide) (by decide) (by decide) ?_
      refine v_aload_n dX8_of_137 rfl 0 rfl ?_
      refine v_get (v := .ref (g.1 + 23)) fa_X8_51 dX8_of_138 rfl (by decide) (ltn rfl) rfl ?_
      refine v_iload_n dX8_of_141 rfl 1 rfl ?_
      refine v_callVfi (As := [.int (nI P2)]) (rest := []) lk_X8_103 (c_refusals (I := I) P2 pp hpp hpe (by omega) hxm hsl hok hch) dX8_of_142 rfl (ltn rfl) rfl rfl (Nat.le_of_ble_eq_true rfl) (by decide) (fun fq11 => ?_)
      exact v_iret hr dX8_of_145 (⟨congrArg (fun z => some (Value.int z)) (by rw [ifc_t h1, t4, ifc_f k6_0, ifc_f k6_1, ifc_f k6_2, ifc_f k6_3, ifc_f k6_4, ifc_f k6_5, ifc_f k6_6, ifc_t k6_7]), ⟨_, scC_32 _ _⟩, rfl, ⟨_, rfl⟩, rfl, rfl⟩)
    by_cases k6_8 : wz = 8
    · refine v_is k6_8 ?_
      refine v_tabIn (off := 135) (tgt := 146) dX8_of_11 (by decide) (by decide) (by decide) (by decide) ?_
      refine v_aload_n dX8_of_146 rfl 0 rfl ?_
      refine v_iload_n dX8_of_147 rfl 1 rfl ?_
      refine v_callV (As := [.int (nI P2)]) (rest := []) lk_X8_106 (c_X8_lentFor P2 pp hpp hpe (by omega) hxm hsl hok hS hch hG) dX8_of_148 rfl (ltn rfl) rfl rfl (Nat.le_of_ble_eq_true rfl) (by decide) (Nat.zero_le _) (Nat.zero_le _) (fun v I12 L_ R_ N_ n_ q13 => ?_)
      obtain ⟨rfl, ⟨kp14, rfl⟩, rfl, ⟨n215, rfl⟩, rfl, rfl⟩ := q13
      refine v_st (st2 := [.int (ifc (I 28 P2 < 0) (-5) (lnC (I 29) (refv (fun q => (Wl (I 24) (I 25) (I 26) (I 31) pp (nsW I nl na) (I 23 9) (I 27) (I 29) P2 q)) 16) pp P2 (tn (I 27 P2)) (tn (I 28 P2)) (2 ^ pp)).2)]) rfl ?_
      exact v_iret hr dX8_of_151 (⟨congrArg (fun z => some (Value.int z)) (by rw [ifc_t h1, t4, ifc_f k6_0, ifc_f k6_1, ifc_f k6_2, ifc_f k6_3, ifc_f k6_4, ifc_f k6_5, ifc_f k6_6, ifc_f k6_7, ifc_t k6_8]), ⟨_, rfl⟩, rfl, ⟨_, rfl⟩, rfl, rfl⟩)
    by_cases k6_9 : wz = 9
    · refine v_is k6_9 ?_
      refine v_tabIn (off := 141) (tgt := 152) dX8_of_11 (by decide) (by decide) (by decide) (by decide) ?_
      refine v_aload_n dX8_of_152 rfl 0 rfl ?_
      refine v_iload_n dX8_of_153 rfl 1 rfl ?_
      refine v_callV (As := [.int (nI P2)]) (rest := []) lk_X8_109 (c_X8_keyFor P2 pp hpp hpe (by omega) hxm hsl hok hS hch hG) dX8_of_154 rfl (ltn rfl) rfl rfl (Nat.le_of_ble_eq_true rfl) (by decide) (Nat.zero_le _) (Nat.zero_le _) (fun v I16 L_ R_ N_ n_ q17 => ?_)
      obtain ⟨rfl, ⟨kp18, rfl⟩, rfl, ⟨n219, rfl⟩, rfl, rfl⟩ := q17
      refine v_st (st2 := [.int ((kyC (fun cq k => (chT I nl na pp (va_up (I 24) cq 9) (I 26) (I 27) ((1 : Int32) <<< (nI P2 &&& 31)) k).1.1 P2 = I 28 P2) (I 28 P2 < 0) (ifc (I 28 P2 < 0) 41 (frst (fun k => (chT I nl na pp (I 24) (I 26) (I 27) ((1 : Int32) <<< (nI P2 &&& 31)) k).1.1 P2 = I 28 P2) 41)) 16).1)]) rfl ?_
      exact v_iret hr dX8_of_157 (⟨congrArg (fun z => some (Value.int z)) (by rw [ifc_t h1, t4, ifc_f k6_0, ifc_f k6_1, ifc_f k6_2, ifc_f k6_3, ifc_f k6_4, ifc_f k6_5, ifc_f k6_6, ifc_f k6_7, ifc_f k6_8, ifc_t k6_9]), ⟨_, rfl⟩, rfl, ⟨_, rfl⟩, rfl, rfl⟩)
    by_cases k6_10 : wz = 10
    · refine v_is k6_10 ?_
      refine v_tabIn (off := 147) (tgt := 158) dX8_of_11 (by decide) (by decide) (by decide) (by decide) ?_
      refine v_aload_n dX8_of_158 rfl 0 rfl ?_
      refine v_iload_n dX8_of_159 rfl 1 rfl ?_
      refine v_callV (As := [.int (nI P2)]) (rest := []) lk_X8_112 (c_X8_fromOf P2 pp hpp hpe (by omega) hxm hsl hok hS hch hG sn hsn hse hsw hst) dX8_of_160 rfl (ltn rfl) rfl rfl (Nat.le_of_ble_eq_true rfl) (by decide) (Nat.zero_le _) (Nat.zero_le _) (fun v I20 L_ R_ N_ n_ q21 => ?_)
      obtain ⟨rfl, ⟨kp22, rfl⟩, rfl, ⟨n223, rfl⟩, rfl, rfl⟩ := q21
      refine v_st (st2 := [.int (bsC (fun c => (∀ k, k < sn → (chT I nl na pp (I 24) (I 26) (va_up (I 27) P2 (nI c)) (snO (I 3) sn) (tn (I 3 (3 * k + 1)))).1.1 (tn (I 3 (3 * k))) = I 3 (3 * k + 2))) 16)]) rfl ?_
      exact v_iret hr dX8_of_163 (⟨congrArg (fun z => some (Value.int z)) (by rw [ifc_t h1, t4, ifc_f k6_0, ifc_f k6_1, ifc_f k6_2, ifc_f k6_3, ifc_f k6_4, ifc_f k6_5, ifc_f k6_6, ifc_f k6_7, ifc_f k6_8, ifc_f k6_9, ifc_t k6_10]), ⟨_, rfl⟩, rfl, ⟨_, rfl⟩, rfl, rfl⟩)
    have t24 : wz.toInt < 0 ∨ 10 < wz.toInt := by
      rcases sw_out wz (0) (10) with h | h | ⟨ha, hb⟩
      · exact Or.inl h
      · exact Or.inr h
      · exfalso
        have hz : ∀ z : Int, 0 ≤ z → z ≤ 10 → z = 0 ∨ z = 1 ∨ z = 2 ∨ z = 3 ∨ z = 4 ∨ z = 5 ∨ z = 6 ∨ z = 7 ∨ z = 8 ∨ z = 9 ∨ z = 10 := by omega
        rcases hz _ ha hb with e | e | e | e | e | e | e | e | e | e | e
        · exact absurd (sw_eq (k := 0) e (by decide)) k6_0
        · exact absurd (sw_eq (k := 1) e (by decide)) k6_1
        · exact absurd (sw_eq (k := 2) e (by decide)) k6_2
        · exact absurd (sw_eq (k := 3) e (by decide)) k6_3
        · exact absurd (sw_eq (k := 4) e (by decide)) k6_4
        · exact absurd (sw_eq (k := 5) e (by decide)) k6_5
        · exact absurd (sw_eq (k := 6) e (by decide)) k6_6
        · exact absurd (sw_eq (k := 7) e (by decide)) k6_7
        · exact absurd (sw_eq (k := 8) e (by decide)) k6_8
        · exact absurd (sw_eq (k := 9) e (by decide)) k6_9
        · exact absurd (sw_eq (k := 10) e (by decide)) k6_10
    refine v_tabOut (tgt := 164) dX8_of_11 t24 (by decide) ?_
    refine v_iconst (v := (-1)) dX8_of_164 (by decide) ?_
    exact v_iret hr dX8_of_165 (⟨congrArg (fun z => some (Value.int z)) (by rw [ifc_t h1, t4, ifc_f k6_0, ifc_f k6_1, ifc_f k6_2, ifc_f k6_3, ifc_f k6_4, ifc_f k6_5, ifc_f k6_6, ifc_f k6_7, ifc_f k6_8, ifc_f k6_9, ifc_f k6_10]), ⟨_, scC_self _⟩, rfl, ⟨_, rfl⟩, rfl, rfl⟩)
  · -- not inr pz pp
    refine v_iconst (v := (-1)) dX8_of_8 (by decide) ?_
    exact v_iret hr dX8_of_9 (⟨congrArg (fun z => some (Value.int z)) (by rw [ifc_f h1]), ⟨_, scC_self _⟩, rfl, ⟨_, rfl⟩, rfl, rfl⟩)
