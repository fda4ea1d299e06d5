theorem reach_gd {rf : Int32} {sz : Nat} (hsz : sz < 16) : ∀ n, n ≤ 16 → bitc (flo rf ((1 : Int32) <<< (nI sz &&& 31)) 16) n = gdN rf sz n
  | 0, _ => rfl
  | n + 1, hn => by
    rw [bitc, gdN, reach_gd hsz n (by omega)]
    congr 1
    have e : hb (flo rf ((1 : Int32) <<< (nI sz &&& 31)) 16) n ↔ lwn rf sz n < 99 := by
      rw [fwd_hb hsz _ _ (by omega), fwd_lwn hsz (by omega) (by omega)]
      exact ⟨fun q => by omega, fun q => by have h := lwn_15 hsz (by omega) q; omega⟩
    exact ifc_congr e
def isUP (a k : Int32) : Prop := k = 0 ∨ a = k ∨ (k = 1 ∧ a = 4) ∨ (k = 2 ∧ a = 5) ∨ (k = 3 ∧ a = 6)
set_option maxRecDepth 100000 in
set_option maxHeartbeats 400000 in
theorem c_X8_mean {g : Gl} {I : Ty} {L : TL} {na nt ni m : Nat} {nl : Nat → Nat} (pt : Int32) (pp : Nat) (hpp : pp ≤ 6) (hpe : I 23 1 = nI pp) (hch : ChOK (I 29)) : Ct g yX8_mean cX8_mean 2 (some .long) 2 0 0 [.ref (g.1 + 0), .int pt] I L (RT na nt ni) (NT nl) (NB + m) (PZ na ni m nl (some (.long (ifc (inr pt 2 ∧ pp ≠ 0) (lowL (mnF (I 29) pp) pp pt) (-9223372036854775808)))) I L) := by
  refine ct_of (by decide +kernel) (Nat.le_of_ble_eq_true rfl) (fun F hnm hr => ?_)
  clear hnm
  show V g F cX8_mean RX8 2 2 0 [(0, .ref (g.1 + 0)), (1, .int pt)] [] I L (RT na nt ni) (NT nl) (NB + m) 0 0
  have hmn := mnF_le (I 29) pp
  refine v_iload_n dX8_mean_0 rfl 1 rfl ?_
  refine v_if_lt (tgt := 19) dX8_mean_1 (by decide) (fun h1 => ?_) (fun h1 => ?_)
  · -- pt lt 0
    have r2 : ¬ inr pt 2 := inr_lo h1
    -- not inr pt 2
    refine v_ldc2 dX8_mean_19 uc_X8_210 ?_
    exact v_lret hr dX8_mean_22 (⟨congrArg (fun z => some (Value.long z)) (by first | rfl | (simp only [bq, ifc_T, ifc_F, inr_m1, and_true, true_and, and_false, false_and, or_true, true_or, or_false, false_or, not_true_eq_false, not_false_eq_true, and_self, or_self, h1, r2]; done) | (simp [bq, ifc_T, ifc_F, inr_m1, h1, r2]; done) | ((try simp only [bq]); repeat (first | rfl | (refine eq_t ?_ ?_; focus (first | omega | assumption | (simp [inr_m1, h1, r2]; done) | (simp [inr_m1, h1, r2]; omega) | (clear hr; (try clear hkn); simp_all; done))) | (refine eq_f ?_ ?_; focus (first | omega | assumption | (simp [inr_m1, h1, r2]; done) | (simp [inr_m1, h1, r2]; omega) | (clear hr; (try clear hkn); simp_all; done))) | (exfalso; clear hr; (try clear hkn); simp_all; done)))), ⟨_, scC_self _⟩, rfl, ⟨_, rfl⟩, rfl, rfl⟩)
  · -- pt ge 0
    refine v_iload_n dX8_mean_4 rfl 1 rfl ?_
    refine v_iconst (v := 1) dX8_mean_5 (by decide) ?_
    refine v_icmp_gt (tgt := 19) dX8_mean_6 (by decide) (fun h3 => ?_) (fun h3 => ?_)
    · -- pt gt 1
      have r4 : ¬ inr pt 2 := inr_gt (k := 1) (by omega) h3
      -- not inr pt 2
      refine v_ldc2 dX8_mean_19 uc_X8_210 ?_
      exact v_lret hr dX8_mean_22 (⟨congrArg (fun z => some (Value.long z)) (by first | rfl | (simp only [bq, ifc_T, ifc_F, inr_m1, and_true, true_and, and_false, false_and, or_true, true_or, or_false, false_or, not_true_eq_false, not_false_eq_true, and_self, or_self, h1, h3, r4]; done) | (simp [bq, ifc_T, ifc_F, inr_m1, h1, h3, r4]; done) | ((try simp only [bq]); repeat (first | rfl | (refine eq_t ?_ ?_; focus (first | omega | assumption | (simp [inr_m1, h1, h3, r4]; done) | (simp [inr_m1, h1, h3, r4]; omega) | (clear hr; (try clear hkn); simp_all; done))) | (refine eq_f ?_ ?_; focus (first | omega | assumption | (simp [inr_m1, h1, h3, r4]; done) | (simp [inr_m1, h1, h3, r4]; omega) | (clear hr; (try clear hkn); simp_all; done))) | (exfalso; clear hr; (try clear hkn); simp_all; done)))), ⟨_, scC_self _⟩, rfl, ⟨_, rfl⟩, rfl, rfl⟩)
    · -- pt le 1
      have r5 : inr pt 2 := inr_mk2 (k := 1) (by omega) h1 h3
      -- inr pt 2
      refine v_aload_n dX8_mean_9 rfl 0 rfl ?_
      refine v_get (v := .ref (g.1 + 23)) fa_X8_51 dX8_mean_10 rfl (by decide) (ltn rfl) rfl ?_
      refine v_get (v := .int (I 23 1)) fa_X8_66 dX8_mean_13 rfl (by decide) (ltn rfl) rfl ?_
      refine v_is hpe ?_
      refine v_if_neN (a := pp) (tgt := 23) dX8_mean_16 (by decide) rfl (by omega) (fun h6 => ?_) (fun h6 => ?_)
      · -- pp ne 0
        refine v_aload_n dX8_mean_23 rfl 0 rfl ?_
        refine v_get (v := .ref (g.1 + 23)) fa_X8_51 dX8_mean_24 rfl (by decide) (ltn rfl) rfl ?_
        refine v_callVi (As := []) (rest := []) lk_X8_219 (c_allDrawn (I := I) pp hpp hpe hch) dX8_mean_27 rfl (ltn rfl) rfl rfl (Nat.le_of_ble_eq_true rfl) (by decide) ?_
        refine v_aload_n dX8_mean_30 rfl 0 rfl ?_
        refine v_get (v := .ref (g.1 + 23)) fa_X8_51 dX8_mean_31 rfl (by decide) (ltn rfl) rfl ?_
        refine v_get (v := .int (I 23 1)) fa_X8_66 dX8_mean_34 rfl (by decide) (ltn rfl) rfl ?_
        refine v_is hpe ?_
        refine v_iload_n dX8_mean_37 rfl 1 rfl ?_
        refine v_callSl (As := [.int (nI (mnF (I 29) pp)), .int (nI pp), .int pt]) (rest := []) lk_X8_215 (c_X8_lowest (mnF (I 29) pp) pp pt (by omega) (by omega) (by omega)) dX8_mean_38 rfl rfl (Nat.le_of_ble_eq_true rfl) (by decide) ?_
        exact v_lret hr dX8_mean_41 (⟨congrArg (fun z => some (Value.long z)) (by first | rfl | (simp only [bq, ifc_T, ifc_F, inr_m1, and_true, true_and, and_false, false_and, or_true, true_or, or_false, false_or, not_true_eq_false, not_false_eq_true, and_self, or_self, h1, h3, r5, h6]; done) | (simp [bq, ifc_T, ifc_F, inr_m1, h1, h3, r5, h6]; done) | ((try simp only [bq]); repeat (first | rfl | (refine eq_t ?_ ?_; focus (first | omega | assumption | (simp [inr_m1, h1, h3, r5, h6]; done) | (simp [inr_m1, h1, h3, r5, h6]; omega) | (clear hr; (try clear hkn); simp_all; done))) | (refine eq_f ?_ ?_; focus (first | omega | assumption | (simp [inr_m1, h1, h3, r5, h6]; done) | (simp [inr_m1, h1, h3, r5, h6]; omega) | (clear hr; (try clear hkn); simp_all; done))) | (exfalso; clear hr; (try clear hkn); simp_all; done)))), ⟨_, scC_self _⟩, rfl, ⟨_, rfl⟩, rfl, rfl⟩)
      · -- pp eq 0
        refine v_ldc2 dX8_mean_19 uc_X8_210 ?_
        exact v_lret hr dX8_mean_22 (⟨congrArg (fun z => some (Value.long z)) (by first | rfl | (simp only [bq, ifc_T, ifc_F, inr_m1, and_true, true_and, and_false, false_and, or_true, true_or, or_false, false_or, not_true_eq_false, not_false_eq_true, and_self, or_self, h1, h3, r5, h6]; done) | (simp [bq, ifc_T, ifc_F, inr_m1, h1, h3, r5, h6]; done) | ((try simp only [bq]); repeat (first | rfl | (refine eq_t ?_ ?_; focus (first | omega | assumption | (simp [inr_m1, h1, h3, r5, h6]; done) | (simp [inr_m1, h1, h3, r5, h6]; omega) | (clear hr; (try clear hkn); simp_all; done))) | (refine eq_f ?_ ?_; focus (first | omega | assumption | (simp [inr_m1, h1, h3, r5, h6]; done) | (simp [inr_m1, h1, h3, r5, h6]; omega) | (clear hr; (try clear hkn); simp_all; done))) | (exfalso; clear hr; (try clear hkn); simp_all; done)))), ⟨_, scC_self _⟩, rfl, ⟨_, rfl⟩, rfl, rfl⟩)
set_option maxRecDepth 100000 in
set_option maxHeartbeats 1000000 in
theorem c_X8_odds {g : Gl} {I : Ty} {L : TL} {na nt ni m : Nat} {nl : Nat → Nat} (pz : Int32) (pt : Int32) (pp : Nat) (hpp : pp ≤ 6) (hpe : I 23 1 = nI pp) (hxm : 2 * na ≤ m) (hsl : sln nl na ≤ 100) (hok : okSt (I (scell na)) (sln nl na)) (hch : ChOK (I 29)) (hS : okS (mgC23 I)) : Ct g yX8_odds cX8_odds 4 (some .long) 3 0 0 [.ref (g.1 + 0), .int pz, .int pt] I L (RT na nt ni) (NT nl) (NB + m) (PZ na ni m nl (some (.long (ifc (inr pz pp ∧ inr pt 2) (lowL (gdN (refv (fun q => (Wl (I 24) (I 25) (I 26) (I 31) pp (nsW I nl na) (I 23 9) (I 27) (I 29) (tn pz) q)) 16) (tn (I 27 (tn pz))) 16) 16 pt) (-9223372036854775808)))) I L) := by
  refine ct_of (by decide +kernel) (Nat.le_of_ble_eq_true rfl) (fun F hnm hr => ?_)
  clear hnm
  show V g F cX8_odds RX8 4 3 0 [(0, .ref (g.1 + 0)), (1, .int pz), (2, .int pt)] [] I L (RT na nt ni) (NT nl) (NB + m) 0 0
  refine v_aload_n dX8_odds_0 rfl 0 rfl ?_
  refine v_iload_n dX8_odds_1 rfl 1 rfl ?_
  refine v_callVi (As := [.int pz]) (rest := []) lk_X8_74 (c_X8_isTraveller pz pp hpp hpe) dX8_odds_2 rfl (ltn rfl) rfl rfl (Nat.le_of_ble_eq_true rfl) (by decide) ?_
  refine v_ifb_eq (tgt := 17) dX8_odds_5 (by decide) (fun h1 => ?_) (fun h1 => ?_)
  · -- not inr pz pp
    refine v_ldc2 dX8_odds_17 uc_X8_210 ?_
    exact v_lret hr dX8_odds_20 (⟨congrArg (fun z => some (Value.long z)) (by first | rfl | (simp only [bq, ifc_T, ifc_F, inr_m1, and_true, true_and, and_false, false_and, or_true, true_or, or_false, false_or, not_true_eq_false, not_false_eq_true, and_self, or_self, h1]; done) | (simp [bq, ifc_T, ifc_F, inr_m1, h1]; done) | ((try simp only [bq]); repeat (first | rfl | (refine eq_t ?_ ?_; focus (first | omega | assumption | (simp [inr_m1, h1]; done) | (simp [inr_m1, h1]; omega) | (clear hr; (try clear hkn); simp_all; done))) | (refine eq_f ?_ ?_; focus (first | omega | assumption | (simp [inr_m1, h1]; done) | (simp [inr_m1, h1]; omega) | (clear hr; (try clear hkn); simp_all; done))) | (exfalso; clear hr; (try clear hkn); simp_all; done)))), ⟨_, scC_self _⟩, rfl, ⟨_, rfl⟩, rfl, rfl⟩)
  · -- inr pz pp
    obtain ⟨P2, rfl, l3, t4, u5⟩ := inr_ex h1 (by omega)
    obtain ⟨sz, hsz, hes⟩ := hS P2 (by omega)
    have hes : I 27 P2 = nI sz := hes
    have htz : tn (nI sz) = sz := tn_nI (by omega)
    refine v_iload_n dX8_odds_8 rfl 2 rfl ?_
    refine v_if_lt (tgt := 17) dX8_odds_9 (by decide) (fun h6 => ?_) (fun h6 => ?_)
    · -- pt lt 0
      have r7 : ¬ inr pt 2 := inr_lo h6
      -- not inr pt 2
      refine v_ldc2 dX8_odds_17 uc_X8_210 ?_
      exact v_lret hr dX8_odds_20 (⟨congrArg (fun z => some (Value.long z)) (by first | rfl | (simp only [bq, ifc_T, ifc_F, inr_m1, and_true, true_and, and_false, false_and, or_true, true_or, or_false, false_or, not_true_eq_false, not_false_eq_true, and_self, or_self, h1, t4, u5, l3, hes, htz, h6, r7]; done) | (simp [bq, ifc_T, ifc_F, inr_m1, h1, t4, u5, l3, hes, htz, h6, r7]; done) | ((try simp only [bq]); repeat (first | rfl | (refine eq_t ?_ ?_; focus (first | omega | assumption | (simp [inr_m1, h1, t4, u5, l3, hes, htz, h6, r7]; done) | (simp [inr_m1, h1, t4, u5, l3, hes, htz, h6, r7]; omega) | (simp only [u5]; omega) | (clear hr; (try clear hkn); simp_all; done))) | (refine eq_f ?_ ?_; focus (first | omega | assumption | (simp [inr_m1, h1, t4, u5, l3, hes, htz, h6, r7]; done) | (simp [inr_m1, h1, t4, u5, l3, hes, htz, h6, r7]; omega) | (simp only [u5]; omega) | (clear hr; (try clear hkn); simp_all; done))) | (simp only [t4]; done) | (exfalso; clear hr; (try clear hkn); simp_all; done)))), ⟨_, scC_self _⟩, rfl, ⟨_, rfl⟩, rfl, rfl⟩)
    · -- pt ge 0
      refine v_iload_n dX8_odds_12 rfl 2 rfl ?_
      refine v_iconst (v := 1) dX8_odds_13 (by decide) ?_
      refine v_icmp_le (tgt := 21) dX8_odds_14 (by decide) (fun h8 => ?_) (fun h8 => ?_)
      · -- pt le 1
        have r9 : inr pt 2 := inr_mk2 (k := 1) (by omega) h6 (Int32.not_lt.mpr h8)
        -- inr pt 2
        have h8n := Int32.not_lt.mpr h8
        refine v_aload_n dX8_odds_21 rfl 0 rfl ?_
        refine v_get (v := .ref (g.1 + 23)) fa_X8_51 dX8_odds_22 rfl (by decide) (ltn rfl) rfl ?_
        refine v_get (v := .ref (g.1 + 27)) fa_X8_84 dX8_odds_25 rfl (by decide) (ltn rfl) rfl ?_
        refine v_iload_n dX8_odds_28 rfl 1 rfl ?_
        refine v_iaload (len := 6) (j := P2) dX8_odds_29 rfl (ltn rfl) rfl (by decide) rfl (by omega) ?_
        refine v_is hes ?_
        refine v_aload_n dX8_odds_30 rfl 0 rfl ?_
        refine v_get (v := .ref (g.1 + 23)) fa_X8_51 dX8_odds_31 rfl (by decide) (ltn rfl) rfl ?_
        refine v_iload_n dX8_odds_34 rfl 1 rfl ?_
        refine v_callVfi (As := [.int (nI P2)]) (rest := [.int (nI sz)]) lk_X8_103 (c_refusals (I := I) P2 pp hpp hpe (by omega) hxm hsl hok hch) dX8_odds_35 rfl (ltn rfl) rfl rfl (Nat.le_of_ble_eq_true rfl) (by decide) (fun fq10 => ?_)
        refine v_callSi (As := [.int (nI sz), .int (refv (fun q => (Wl (I 24) (I 25) (I 26) (I 31) pp (nsW I nl na) (I 23 9) (I 27) (I 29) P2 q)) 16)]) (rest := []) lk_X8_212 (c_X7_reach sz (refv (fun q => (Wl (I 24) (I 25) (I 26) (I 31) pp (nsW I nl na) (I 23 9) (I 27) (I 29) P2 q)) 16) (by omega)) dX8_odds_38 rfl rfl (Nat.le_of_ble_eq_true rfl) (by decide) ?_
        refine v_istore_n (lv2 := [(3, .int (flo (refv (fun q => (Wl (I 24) (I 25) (I 26) (I 31) pp (nsW I nl na) (I 23 9) (I 27) (I 29) P2 q)) 16) ((1 : Int32) <<< (nI sz &&& 31)) 16)), (0, .ref (g.1 + 0)), (1, .int (nI P2)), (2, .int pt)]) dX8_odds_41 rfl (by decide) rfl ?_
        refine v_iload_n dX8_odds_42 rfl 0 rfl ?_
        refine v_callSi (As := [.int (flo (refv (fun q => (Wl (I 24) (I 25) (I 26) (I 31) pp (nsW I nl na) (I 23 9) (I 27) (I 29) P2 q)) 16) ((1 : Int32) <<< (nI sz &&& 31)) 16)]) (rest := []) lk_X8_202 (c_bitCount (xz := (flo (refv (fun q => (Wl (I 24) (I 25) (I 26) (I 31) pp (nsW I nl na) (I 23 9) (I 27) (I 29) P2 q)) 16) ((1 : Int32) <<< (nI sz &&& 31)) 16)) (s16_inr.mp (flo_16 (s16_one hsz) 16))) dX8_odds_43 rfl rfl (Nat.le_of_ble_eq_true rfl) (by decide) ?_
        refine v_is (y := nI (gdN (refv (fun q => (Wl (I 24) (I 25) (I 26) (I 31) pp (nsW I nl na) (I 23 9) (I 27) (I 29) P2 q)) 16) sz 16)) (congrArg nI (reach_gd hsz 16 (Nat.le_refl _))) ?_
        have hgd := gdN_le (refv (fun q => (Wl (I 24) (I 25) (I 26) (I 31) pp (nsW I nl na) (I 23 9) (I 27) (I 29) P2 q)) 16) sz 16
        refine v_bipush (v := 16) dX8_odds_46 (by decide) ?_
        refine v_iload_n dX8_odds_48 rfl 3 rfl ?_
        refine v_callSl (As := [.int (nI (gdN (refv (fun q => (Wl (I 24) (I 25) (I 26) (I 31) pp (nsW I nl na) (I 23 9) (I 27) (I 29) P2 q)) 16) sz 16)), .int 16, .int pt]) (rest := []) lk_X8_215 (c_X8_lowest (gdN (refv (fun q => (Wl (I 24) (I 25) (I 26) (I 31) pp (nsW I nl na) (I 23 9) (I 27) (I 29) P2 q)) 16) sz 16) 16 pt (by omega) (by omega) (by omega)) dX8_odds_49 rfl rfl (Nat.le_of_ble_eq_true rfl) (by decide) ?_
        exact v_lret hr dX8_odds_52 (⟨congrArg (fun z => some (Value.long z)) (by first | rfl | (simp only [bq, ifc_T, ifc_F, inr_m1, and_true, true_and, and_false, false_and, or_true, true_or, or_false, false_or, not_true_eq_false, not_false_eq_true, and_self, or_self, h1, t4, u5, l3, hes, htz, h6, h8, r9, h8n]; done) | (simp [bq, ifc_T, ifc_F, inr_m1, h1, t4, u5, l3, hes, htz, h6, h8, r9, h8n]; done) | ((try simp only [bq]); repeat (first | rfl | (refine eq_t ?_ ?_; focus (first | omega | assumption | (simp [inr_m1, h1, t4, u5, l3, hes, htz, h6, h8, r9, h8n]; done) | (simp [inr_m1, h1, t4, u5, l3, hes, htz, h6, h8, r9, h8n]; omega) | (simp only [u5]; omega) | (clear hr; (try clear hkn); simp_all; done))) | (refine eq_f ?_ ?_; focus (first | omega | assumption | (simp [inr_m1, h1, t4, u5, l3, hes, htz, h6, h8, r9, h8n]; done) | (simp [inr_m1, h1, t4, u5, l3, hes, htz, h6, h8, r9, h8n]; omega) | (simp only [u5]; omega) | (clear hr; (try clear hkn); simp_all; done))) | (simp only [t4]; done) | (exfalso; clear hr; (try clear hkn); simp_all; done)))), ⟨_, scC_32 _ _⟩, rfl, ⟨_, rfl⟩, rfl, rfl⟩)
      · -- pt gt 1
        have r11 : ¬ inr pt 2 := inr_gt (k := 1) (by omega) (Int32.not_le.mp h8)
        -- not inr pt 2
        have h8n := Int32.not_le.mp h8
        refine v_ldc2 dX8_odds_17 uc_X8_210 ?_
        exact v_lret hr dX8_odds_20 (⟨congrArg (fun z => some (Value.long z)) (by first | rfl | (simp only [bq, ifc_T, ifc_F, inr_m1, and_true, true_and, and_false, false_and, or_true, true_or, or_false, false_or, not_true_eq_false, not_false_eq_true, and_self, or_self, h1, t4, u5, l3, hes, htz, h6, h8, r11, h8n]; done) | (simp [bq, ifc_T, ifc_F, inr_m1, h1, t4, u5, l3, hes, htz, h6, h8, r11, h8n]; done) | ((try simp only [bq]); repeat (first | rfl | (refine eq_t ?_ ?_; focus (first | omega | assumption | (simp [inr_m1, h1, t4, u5, l3, hes, htz, h6, h8, r11, h8n]; done) | (simp [inr_m1, h1, t4, u5, l3, hes, htz, h6, h8, r11, h8n]; omega) | (simp only [u5]; omega) | (clear hr; (try clear hkn); simp_all; done))) | (refine eq_f ?_ ?_; focus (first | omega | assumption | (simp [inr_m1, h1, t4, u5, l3, hes, htz, h6, h8, r11, h8n]; done) | (simp [inr_m1, h1, t4, u5, l3, hes, htz, h6, h8, r11, h8n]; omega) | (simp only [u5]; omega) | (clear hr; (try clear hkn); simp_all; done))) | (simp only [t4]; done) | (exfalso; clear hr; (try clear hkn); simp_all; done)))), ⟨_, scC_self _⟩, rfl, ⟨_, rfl⟩, rfl, rfl⟩)
set_option maxRecDepth 100000 in
set_option maxHeartbeats 1000000 in
theorem c_isUnder0 {g : Gl} {I : Ty} {L : TL} {na nt ni m : Nat} {nl : Nat → Nat} (kz : Int32)  : Ct g yX8_isUnder cX8_isUnder 4 (some .boolean) 0 0 0 [.int 0, .int kz] I L (RT na nt ni) (NT nl) (NB + m) (Ps (some (.int (bq (isUP 0 kz)))) (I) L (RT na nt ni) (NT nl) (NB + m)) := by
  refine ct_of (by decide +kernel) (Nat.le_of_ble_eq_true rfl) (fun F hnm hr => ?_)
  clear hnm
  show V g F cX8_isUnder RX8 4 0 0 [(0, .int 0), (1, .int kz)] [] I L (RT na nt ni) (NT nl) (NB + m) 0 0
  refine v_iload_n dX8_isUnder_0 rfl 0 rfl ?_
  refine v_istore_n (lv2 := [(2, .int 0), (0, .int 0), (1, .int kz)]) dX8_isUnder_1 rfl (by decide) rfl ?_
  refine v_iconst (v := 0) dX8_isUnder_2 (by decide) ?_
  refine v_istore_n (lv2 := [(3, .int 0), (2, .int 0), (0, .int 0), (1, .int kz)]) dX8_isUnder_3 rfl (by decide) rfl ?_
  refine v_iload_n dX8_isUnder_4 rfl 0 rfl ?_
  refine v_bipush (v := 7) dX8_isUnder_5 (by decide) ?_
  refine v_icmp_ge (tgt := 39) dX8_isUnder_7 (by decide) (fun h1 => by first | exact absurd h1 (by decide) | exact absurd (by decide) h1) (fun _ => ?_)
  refine v_iload_n dX8_isUnder_10 rfl 1 rfl ?_
  refine v_if_lt (tgt := 39) dX8_isUnder_11 (by decide) (fun h2 => by first | exact absurd h2 (by decide) | exact absurd (by decide) h2) (fun _ => ?_)
  refine v_iload_n dX8_isUnder_14 rfl 1 rfl ?_
  refine v_bipush (v := 7) dX8_isUnder_15 (by decide) ?_
  refine v_icmp_ge (tgt := 39) dX8_isUnder_17 (by decide) (fun h3 => by first | exact absurd h3 (by decide) | exact absurd (by decide) h3) (fun _ => ?_)
  refine v_iload_n dX8_isUnder_20 rfl 1 rfl ?_
  refine v_iload_n dX8_isUnder_21 rfl 3 rfl ?_
  refine v_icmp_ne (tgt := 27) dX8_isUnder_22 (by decide) (fun h5 => ?_) (fun h5 => ?_)
  · refine v_getSABOVE uf_X8_301 dX8_isUnder_27 (fun tq6 htq6 => ?_)
    refine v_iload_n dX8_isUnder_30 rfl 1 rfl ?_
    refine v_tiload (j := 0) htq6 dX8_isUnder_31 rfl (by omega) (by decide) ?_
    refine v_is (y := (-1)) rfl ?_
    refine v_istore_n (lv2 := [(2, .int (-1)), (3, .int 0), (0, .int 0), (1, .int kz)]) dX8_isUnder_32 rfl (by decide) rfl ?_
    refine v_inc (v := 1) (lv2 := [(3, .int 1), (2, .int (-1)), (0, .int 0), (1, .int kz)]) dX8_isUnder_33 1 rfl (by decide) (by decide) rfl ?_
    refine v_goto (tgt := 4) dX8_isUnder_36 (by decide) ?_
    refine v_iload_n dX8_isUnder_4 rfl 0 rfl ?_
    refine v_bipush (v := 7) dX8_isUnder_5 (by decide) ?_
    refine v_icmp_ge (tgt := 39) dX8_isUnder_7 (by decide) (fun h7 => by first | exact absurd h7 (by decide) | exact absurd (by decide) h7) (fun _ => ?_)
    refine v_iload_n dX8_isUnder_10 rfl 1 rfl ?_
    refine v_if_lt (tgt := 39) dX8_isUnder_11 (by decide) (fun _ => ?_) (fun h8 => by first | exact absurd h8 (by decide) | exact absurd (by decide) h8)
    refine v_iconst (v := 0) dX8_isUnder_39 (by decide) ?_
    exact v_zret hr dX8_isUnder_40 (by first | rfl | exact nbq) (psi (bq_f (fun q => by rcases q with q | q | ⟨q, q2⟩ | ⟨q, q2⟩ | ⟨q, q2⟩ <;> first | (exact absurd q2 (by decide)) | (exact absurd q.symm (by assumption)) | (exact absurd q (by assumption)))).symm rfl)
  · refine v_iconst (v := 1) dX8_isUnder_25 (by decide) ?_
    exact v_zret hr dX8_isUnder_26 (by first | rfl | exact nbq) (psi (bq_t (by subst h5; unfold isUP; decide)).symm rfl)
set_option maxRecDepth 100000 in
set_option maxHeartbeats 1000000 in
theorem c_isUnder1 {g : Gl} {I : Ty} {L : TL} {na nt ni m : Nat} {nl : Nat → Nat} (kz : Int32)  : Ct g yX8_isUnder cX8_isUnder 4 (some .boolean) 0 0 0 [.int 1, .int kz] I L (RT na nt ni) (NT nl) (NB + m) (Ps (some (.int (bq (isUP 1 kz)))) (I) L (RT na nt ni) (NT nl) (NB + m)) := by
  refine ct_of (by decide +kernel) (Nat.le_of_ble_eq_true rfl) (fun F hnm hr => ?_)
  clear hnm
  show V g F cX8_isUnder RX8 4 0 0 [(0, .int 1), (1, .int kz)] [] I L (RT na nt ni) (NT nl) (NB + m) 0 0
  refine v_iload_n dX8_isUnder_0 rfl 0 rfl ?_
  refine v_istore_n (lv2 := [(2, .int 1), (0, .int 1), (1, .int kz)]) dX8_isUnder_1 rfl (by decide) rfl ?_
  refine v_iconst (v := 0) dX8_isUnder_2 (by decide) ?_
  refine v_istore_n (lv2 := [(3, .int 0), (2, .int 1), (0, .int 1), (1, .int kz)]) dX8_isUnder_3 rfl (by decide) rfl ?_
  refine v_iload_n dX8_isUnder_4 rfl 0 rfl ?_
  refine v_bipush (v := 7) dX8_isUnder_5 (by decide) ?_
  refine v_icmp_ge (tgt := 39) dX8_isUnder_7 (by decide) (fun h1 => by first | exact absurd h1 (by decide) | exact absurd (by decide) h1) (fun _ => ?_)
  refine v_iload_n dX8_isUnder_10 rfl 1 rfl ?_
  refine v_if_lt (tgt := 39) dX8_isUnder_11 (by decide) (fun h2 => by first | exact absurd h2 (by decide) | exact absurd (by decide) h2) (fun _ => ?_)
  refine v_iload_n dX8_isUnder_14 rfl 1 rfl ?_
  refine v_bipush (v := 7) dX8_isUnder_15 (by decide) ?_
  refine v_icmp_ge (tgt := 39) dX8_isUnder_17 (by decide) (fun h3 => by first | exact absurd h3 (by decide) | exact absurd (by decide) h3) (fun _ => ?_)
  refine v_iload_n dX8_isUnder_20 rfl 1 rfl ?_
  refine v_iload_n dX8_isUnder_21 rfl 3 rfl ?_
  refine v_icmp_ne (tgt := 27) dX8_isUnder_22 (by decide) (fun h5 => ?_) (fun h5 => ?_)
  · refine v_getSABOVE uf_X8_301 dX8_isUnder_27 (fun tq6 htq6 => ?_)
    refine v_iload_n dX8_isUnder_30 rfl 1 rfl ?_
    refine v_tiload (j := 1) htq6 dX8_isUnder_31 rfl (by omega) (by decide) ?_
    refine v_is (y := 0) rfl ?_
    refine v_istore_n (lv2 := [(2, .int 0), (3, .int 0), (0, .int 1), (1, .int kz)]) dX8_isUnder_32 rfl (by decide) rfl ?_
    refine v_inc (v := 1) (lv2 := [(3, .int 1), (2, .int 0), (0, .int 1), (1, .int kz)]) dX8_isUnder_33 1 rfl (by decide) (by decide) rfl ?_
    refine v_goto (tgt := 4) dX8_isUnder_36 (by decide) ?_
    refine v_iload_n dX8_isUnder_4 rfl 0 rfl ?_
    refine v_bipush (v := 7) dX8_isUnder_5 (by decide) ?_
    refine v_icmp_ge (tgt := 39) dX8_isUnder_7 (by decide) (fun h7 => by first | exact absurd h7 (by decide) | exact absurd (by decide) h7) (fun _ => ?_)
    refine v_iload_n dX8_isUnder_10 rfl 1 rfl ?_
    refine v_if_lt (tgt := 39) dX8_isUnder_11 (by decide) (fun h8 => by first | exact absurd h8 (by decide) | exact absurd (by decide) h8) (fun _ => ?_)
    refine v_iload_n dX8_isUnder_14 rfl 1 rfl ?_
    refine v_bipush (v := 7) dX8_isUnder_15 (by decide) ?_
    refine v_icmp_ge (tgt := 39) dX8_isUnder_17 (by decide) (fun h9 => by first | exact absurd h9 (by decide) | exact absurd (by decide) h9) (fun _ => ?_)
    refine v_iload_n dX8_isUnder_20 rfl 1 rfl ?_
    refine v_iload_n dX8_isUnder_21 rfl 3 rfl ?_
    refine v_icmp_ne (tgt := 27) dX8_isUnder_22 (by decide) (fun h11 => ?_) (fun h11 => ?_)
    · refine v_getSABOVE uf_X8_301 dX8_isUnder_27 (fun tq12 htq12 => ?_)
      refine v_iload_n dX8_isUnder_30 rfl 1 rfl ?_
      refine v_tiload (j := 0) htq12 dX8_isUnder_31 rfl (by omega) (by decide) ?_
      refine v_is (y := (-1)) rfl ?_
      refine v_istore_n (lv2 := [(2, .int (-1)), (3, .int 1), (0, .int 1), (1, .int kz)]) dX8_isUnder_32 rfl (by decide) rfl ?_
      refine v_inc (v := 2) (lv2 := [(3, .int 2), (2, .int (-1)), (0, .int 1), (1, .int kz)]) dX8_isUnder_33 1 rfl (by decide) (by decide) rfl ?_
      refine v_goto (tgt := 4) dX8_isUnder_36 (by decide) ?_
      refine v_iload_n dX8_isUnder_4 rfl 0 rfl ?_
      refine v_bipush (v := 7) dX8_isUnder_5 (by decide) ?_
      refine v_icmp_ge (tgt := 39) dX8_isUnder_7 (by decide) (fun h13 => by first | exact absurd h13 (by decide) | exact absurd (by decide) h13) (fun _ => ?_)
      refine v_iload_n dX8_isUnder_10 rfl 1 rfl ?_
      refine v_if_lt (tgt := 39) dX8_isUnder_11 (by decide) (fun _ => ?_) (fun h14 => by first | exact absurd h14 (by decide) | exact absurd (by decide) h14)
      refine v_iconst (v := 0) dX8_isUnder_39 (by decide) ?_
      exact v_zret hr dX8_isUnder_40 (by first | rfl | exact nbq) (psi (bq_f (fun q => by rcases q with q | q | ⟨q, q2⟩ | ⟨q, q2⟩ | ⟨q, q2⟩ <;> first | (exact absurd q2 (by decide)) | (exact absurd q.symm (by assumption)) | (exact absurd q (by assumption)))).symm rfl)
    · refine v_iconst (v := 1) dX8_isUnder_25 (by decide) ?_
      exact v_zret hr dX8_isUnder_26 (by first | rfl | exact nbq) (psi (bq_t (by subst h11; unfold isUP; decide)).symm rfl)
  · refine v_iconst (v := 1) dX8_isUnder_25 (by decide) ?_
    exact v_zret hr dX8_isUnder_26 (by first | rfl | exact nbq) (psi (bq_t (by subst h5; unfold isUP; decide)).symm rfl)
set_option maxRecDepth 100000 in
set_option maxHeartbeats 1000000 in
theorem c_isUnder2 {g : Gl} {I : Ty} {L : TL} {na nt ni m : Nat} {nl : Nat → Nat} (kz : Int32)  : Ct g yX8_isUnder cX8_isUnder 4 (some .boolean) 0 0 0 [.int 2, .int kz] I L (RT na nt ni) (NT nl) (NB + m) (Ps (some (.int (bq (isUP 2 kz)))) (I) L (RT na nt ni) (NT nl) (NB + m)) := by
  refine ct_of (by decide +kernel) (Nat.le_of_ble_eq_true rfl) (fun F hnm hr => ?_)
  clear hnm
  show V g F cX8_isUnder RX8 4 0 0 [(0, .int 2), (1, .int kz)] [] I L (RT na nt ni) (NT nl) (NB + m) 0 0
  refine v_iload_n dX8_isUnder_0 rfl 0 rfl ?_
  refine v_istore_n (lv2 := [(2, .int 2), (0, .int 2), (1, .int kz)]) dX8_isUnder_1 rfl (by decide) rfl ?_
  refine v_iconst (v := 0) dX8_isUnder_2 (by decide) ?_
  refine v_istore_n (lv2 := [(3, .int 0), (2, .int 2), (0, .int 2), (1, .int kz)]) dX8_isUnder_3 rfl (by decide) rfl ?_
  refine v_iload_n dX8_isUnder_4 rfl 0 rfl ?_
  refine v_bipush (v := 7) dX8_isUnder_5 (by decide) ?_
  refine v_icmp_ge (tgt := 39) dX8_isUnder_7 (by decide) (fun h1 => by first | exact absurd h1 (by decide) | exact absurd (by decide) h1) (fun _ => ?_)
  refine v_iload_n dX8_isUnder_10 rfl 1 rfl ?_
  refine v_if_lt (tgt := 39) dX8_isUnder_11 (by decide) (fun h2 => by first | exact absurd h2 (by decide) | exact absurd (by decide) h2) (fun _ => ?_)
  refine v_iload_n dX8_isUnder_14 rfl 1 rfl ?_
  refine v_bipush (v := 7) dX8_isUnder_15 (by decide) ?_
  refine v_icmp_ge (tgt := 39) dX8_isUnder_17 (by decide) (fun h3 => by first | exact absurd h3 (by decide) | exact absurd (by decide) h3) (fun _ => ?_)
  refine v_iload_n dX8_isUnder_20 rfl 1 rfl ?_
  refine v_iload_n dX8_isUnder_21 rfl 3 rfl ?_
  refine v_icmp_ne (tgt := 27) dX8_isUnder_22 (by decide) (fun h5 => ?_) (fun h5 => ?_)
  · refine v_getSABOVE uf_X8_301 dX8_isUnder_27 (fun tq6 htq6 => ?_)
    refine v_iload_n dX8_isUnder_30 rfl 1 rfl ?_
    refine v_tiload (j := 2) htq6 dX8_isUnder_31 rfl (by omega) (by decide) ?_
    refine v_is (y := 0) rfl ?_
    refine v_istore_n (lv2 := [(2, .int 0), (3, .int 0), (0, .int 2), (1, .int kz)]) dX8_isUnder_32 rfl (by decide) rfl ?_
    refine v_inc (v := 1) (lv2 := [(3, .int 1), (2, .int 0), (0, .int 2), (1, .int kz)]) dX8_isUnder_33 1 rfl (by decide) (by decide) rfl ?_
    refine v_goto (tgt := 4) dX8_isUnder_36 (by decide) ?_
    refine v_iload_n dX8_isUnder_4 rfl 0 rfl ?_
    refine v_bipush (v := 7) dX8_isUnder_5 (by decide) ?_
    refine v_icmp_ge (tgt := 39) dX8_isUnder_7 (by decide) (fun h7 => by first | exact absurd h7 (by decide) | exact absurd (by decide) h7) (fun _ => ?_)
    refine v_iload_n dX8_isUnder_10 rfl 1 rfl ?_
    refine v_if_lt (tgt := 39) dX8_isUnder_11 (by decide) (fun h8 => by first | exact absurd h8 (by decide) | exact absurd (by decide) h8) (fun _ => ?_)
    refine v_iload_n dX8_isUnder_14 rfl 1 rfl ?_
    refine v_bipush (v := 7) dX8_isUnder_15 (by decide) ?_
    refine v_icmp_ge (tgt := 39) dX8_isUnder_17 (by decide) (fun h9 => by first | exact absurd h9 (by decide) | exact absurd (by decide) h9) (fun _ => ?_)
    refine v_iload_n dX8_isUnder_20 rfl 1 rfl ?_
    refine v_iload_n dX8_isUnder_21 rfl 3 rfl ?_
    refine v_icmp_ne (tgt := 27) dX8_isUnder_22 (by decide) (fun h11 => ?_) (fun h11 => ?_)
    · refine v_getSABOVE uf_X8_301 dX8_isUnder_27 (fun tq12 htq12 => ?_)
      refine v_iload_n dX8_isUnder_30 rfl 1 rfl ?_
      refine v_tiload (j := 0) htq12 dX8_isUnder_31 rfl (by omega) (by decide) ?_
      refine v_is (y := (-1)) rfl ?_
      refine v_istore_n (lv2 := [(2, .int (-1)), (3, .int 1), (0, .int 2), (1, .int kz)]) dX8_isUnder_32 rfl (by decide) rfl ?_
      refine v_inc (v := 2) (lv2 := [(3, .int 2), (2, .int (-1)), (0, .int 2), (1, .int kz)]) dX8_isUnder_33 1 rfl (by decide) (by decide) rfl ?_
      refine v_goto (tgt := 4) dX8_isUnder_36 (by decide) ?_
      refine v_iload_n dX8_isUnder_4 rfl 0 rfl ?_
      refine v_bipush (v := 7) dX8_isUnder_5 (by decide) ?_
      refine v_icmp_ge (tgt := 39) dX8_isUnder_7 (by decide) (fun h13 => by first | exact absurd h13 (by decide) | exact absurd (by decide) h13) (fun _ => ?_)
      refine v_iload_n dX8_isUnder_10 rfl 1 rfl ?_
      refine v_if_lt (tgt := 39) dX8_isUnder_11 (by decide) (fun _ => ?_) (fun h14 => by first | exact absurd h14 (by decide) | exact absurd (by decide) h14)
      refine v_iconst (v := 0) dX8_isUnder_39 (by decide) ?_
      exact v_zret hr dX8_isUnder_40 (by first | rfl | exact nbq) (psi (bq_f (fun q => by rcases q with q | q | ⟨q, q2⟩ | ⟨q, q2⟩ | ⟨q, q2⟩ <;> first | (exact absurd q2 (by decide)) | (exact absurd q.symm (by assumption)) | (exact absurd q (by assumption)))).symm rfl)
    · refine v_iconst (v := 1) dX8_isUnder_25 (by decide) ?_
      exact v_zret hr dX8_isUnder_26 (by first | rfl | exact nbq) (psi (bq_t (by subst h11; unfold isUP; decide)).symm rfl)
  · refine v_iconst (v := 1) dX8_isUnder_25 (by decide) ?_
    exact v_zret hr dX8_isUnder_26 (by first | rfl | exact nbq) (psi (bq_t (by subst h5; unfold isUP; decide)).symm rfl)
set_option maxRecDepth 100000 in
set_option maxHeartbeats 1000000 in
theorem c_isUnder3 {g : Gl} {I : Ty} {L : TL} {na nt ni m : Nat} {nl : Nat → Nat} (kz : Int32)  : Ct g yX8_isUnder cX8_isUnder 4 (some .boolean) 0 0 0 [.int 3, .int kz] I L (RT na nt ni) (NT nl) (NB + m) (Ps (some (.int (bq (isUP 3 kz)))) (I) L (RT na nt ni) (NT nl) (NB + m)) := by
  refine ct_of (by decide +kernel) (Nat.le_of_ble_eq_true rfl) (fun F hnm hr => ?_)
  clear hnm
  show V g F cX8_isUnder RX8 4 0 0 [(0, .int 3), (1, .int kz)] [] I L (RT na nt ni) (NT nl) (NB + m) 0 0
  refine v_iload_n dX8_isUnder_0 rfl 0 rfl ?_
  refine v_istore_n (lv2 := [(2, .int 3), (0, .int 3), (1, .int kz)]) dX8_isUnder_1 rfl (by decide) rfl ?_
  refine v_iconst (v := 0) dX8_isUnder_2 (by decide) ?_
  refine v_istore_n (lv2 := [(3, .int 0), (2, .int 3), (0, .int 3), (1, .int kz)]) dX8_isUnder_3 rfl (by decide) rfl ?_
  refine v_iload_n dX8_isUnder_4 rfl 0 rfl ?_
  refine v_bipush (v := 7) dX8_isUnder_5 (by decide) ?_
  refine v_icmp_ge (tgt := 39) dX8_isUnder_7 (by decide) (fun h1 => by first | exact absurd h1 (by decide) | exact absurd (by decide) h1) (fun _ => ?_)
  refine v_iload_n dX8_isUnder_10 rfl 1 rfl ?_
  refine v_if_lt (tgt := 39) dX8_isUnder_11 (by decide) (fun h2 => by first | exact absurd h2 (by decide) | exact absurd (by decide) h2) (fun _ => ?_)
  refine v_iload_n dX8_isUnder_14 rfl 1 rfl ?_
  refine v_bipush (v := 7) dX8_isUnder_15 (by decide) ?_
  refine v_icmp_ge (tgt := 39) dX8_isUnder_17 (by decide) (fun h3 => by first | exact absurd h3 (by decide) | exact absurd (by decide) h3) (fun _ => ?_)
  refine v_iload_n dX8_isUnder_20 rfl 1 rfl ?_
  refine v_iload_n dX8_isUnder_21 rfl 3 rfl ?_
  refine v_icmp_ne (tgt := 27) dX8_isUnder_22 (by decide) (fun h5 => ?_) (fun h5 => ?_)
  · refine v_getSABOVE uf_X8_301 dX8_isUnder_27 (fun tq6 htq6 => ?_)
    refine v_iload_n dX8_isUnder_30 rfl 1 rfl ?_
    refine v_tiload (j := 3) htq6 dX8_isUnder_31 rfl (by omega) (by decide) ?_
    refine v_is (y := 0) rfl ?_
    refine v_istore_n (lv2 := [(2, .int 0), (3, .int 0), (0, .int 3), (1, .int kz)]) dX8_isUnder_32 rfl (by decide) rfl ?_
    refine v_inc (v := 1) (lv2 := [(3, .int 1), (2, .int 0), (0, .int 3), (1, .int kz)]) dX8_isUnder_33 1 rfl (by decide) (by decide) rfl ?_
    refine v_goto (tgt := 4) dX8_isUnder_36 (by decide) ?_
    refine v_iload_n dX8_isUnder_4 rfl 0 rfl ?_
    refine v_bipush (v := 7) dX8_isUnder_5 (by decide) ?_
    refine v_icmp_ge (tgt := 39) dX8_isUnder_7 (by decide) (fun h7 => by first | exact absurd h7 (by decide) | exact absurd (by decide) h7) (fun _ => ?_)
    refine v_iload_n dX8_isUnder_10 rfl 1 rfl ?_
    refine v_if_lt (tgt := 39) dX8_isUnder_11 (by decide) (fun h8 => by first | exact absurd h8 (by decide) | exact absurd (by decide) h8) (fun _ => ?_)
    refine v_iload_n dX8_isUnder_14 rfl 1 rfl ?_
    refine v_bipush (v := 7) dX8_isUnder_15 (by decide) ?_
    refine v_icmp_ge (tgt := 39) dX8_isUnder_17 (by decide) (fun h9 => by first | exact absurd h9 (by decide) | exact absurd (by decide) h9) (fun _ => ?_)
    refine v_iload_n dX8_isUnder_20 rfl 1 rfl ?_
    refine v_iload_n dX8_isUnder_21 rfl 3 rfl ?_
    refine v_icmp_ne (tgt := 27) dX8_isUnder_22 (by decide) (fun h11 => ?_) (fun h11 => ?_)
    · refine v_getSABOVE uf_X8_301 dX8_isUnder_27 (fun tq12 htq12 => ?_)
      refine v_iload_n dX8_isUnder_30 rfl 1 rfl ?_
      refine v_tiload (j := 0) htq12 dX8_isUnder_31 rfl (by omega) (by decide) ?_
      refine v_is (y := (-1)) rfl ?_
      refine v_istore_n (lv2 := [(2, .int (-1)), (3, .int 1), (0, .int 3), (1, .int kz)]) dX8_isUnder_32 rfl (by decide) rfl ?_
      refine v_inc (v := 2) (lv2 := [(3, .int 2), (2, .int (-1)), (0, .int 3), (1, .int kz)]) dX8_isUnder_33 1 rfl (by decide) (by decide) rfl ?_
      refine v_goto (tgt := 4) dX8_isUnder_36 (by decide) ?_
      refine v_iload_n dX8_isUnder_4 rfl 0 rfl ?_
      refine v_bipush (v := 7) dX8_isUnder_5 (by decide) ?_
      refine v_icmp_ge (tgt := 39) dX8_isUnder_7 (by decide) (fun h13 => by first | exact absurd h13 (by decide) | exact absurd (by decide) h13) (fun _ => ?_)
      refine v_iload_n dX8_isUnder_10 rfl 1 rfl ?_
      refine v_if_lt (tgt := 39) dX8_isUnder_11 (by decide) (fun _ => ?_) (fun h14 => by first | exact absurd h14 (by decide) | exact absurd (by decide) h14)
      refine v_iconst (v := 0) dX8_isUnder_39 (by decide) ?_
      exact v_zret hr dX8_isUnder_40 (by first | rfl | exact nbq) (psi (bq_f (fun q => by rcases q with q | q | ⟨q, q2⟩ | ⟨q, q2⟩ | ⟨q, q2⟩ <;> first | (exact absurd q2 (by decide)) | (exact absurd q.symm (by assumption)) | (exact absurd q (by assumption)))).symm rfl)
    · refine v_iconst (v := 1) dX8_isUnder_25 (by decide) ?_
      exact v_zret hr dX8_isUnder_26 (by first | rfl | exact nbq) (psi (bq_t (by subst h11; unfold isUP; decide)).symm rfl)
  · refine v_iconst (v := 1) dX8_isUnder_25 (by decide) ?_
    exact v_zret hr dX8_isUnder_26 (by first | rfl | exact nbq) (psi (bq_t (by subst h5; unfold isUP; decide)).symm rfl)
set_option maxRecDepth 100000 in
set_option maxHeartbeats 1000000 in
theorem c_isUnder4 {g : Gl} {I : Ty} {L : TL} {na nt ni m : Nat} {nl : Nat → Nat} (kz : Int32)  : Ct g yX8_isUnder cX8_isUnder 4 (some .boolean) 0 0 0 [.int 4, .int kz] I L (RT na nt ni) (NT nl) (NB + m) (Ps (some (.int (bq (isUP 4 kz)))) (I) L (RT na nt ni) (NT nl) (NB + m)) := by
  refine ct_of (by decide +kernel) (Nat.le_of_ble_eq_true rfl) (fun F hnm hr => ?_)
  clear hnm
  show V g F cX8_isUnder RX8 4 0 0 [(0, .int 4), (1, .int kz)] [] I L (RT na nt ni) (NT nl) (NB + m) 0 0
  refine v_iload_n dX8_isUnder_0 rfl 0 rfl ?_
  refine v_istore_n (lv2 := [(2, .int 4), (0, .int 4), (1, .int kz)]) dX8_isUnder_1 rfl (by decide) rfl ?_
  refine v_iconst (v := 0) dX8_isUnder_2 (by decide) ?_
  refine v_istore_n (lv2 := [(3, .int 0), (2, .int 4), (0, .int 4), (1, .int kz)]) dX8_isUnder_3 rfl (by decide) rfl ?_
  refine v_iload_n dX8_isUnder_4 rfl 0 rfl ?_
  refine v_bipush (v := 7) dX8_isUnder_5 (by decide) ?_
  refine v_icmp_ge (tgt := 39) dX8_isUnder_7 (by decide) (fun h1 => by first | exact absurd h1 (by decide) | exact absurd (by decide) h1) (fun _ => ?_)
  refine v_iload_n dX8_isUnder_10 rfl 1 rfl ?_
  refine v_if_lt (tgt := 39) dX8_isUnder_11 (by decide) (fun h2 => by first | exact absurd h2 (by decide) | exact absurd (by decide) h2) (fun _ => ?_)
  refine v_iload_n dX8_isUnder_14 rfl 1 rfl ?_
  refine v_bipush (v := 7) dX8_isUnder_15 (by decide) ?_
  refine v_icmp_ge (tgt := 39) dX8_isUnder_17 (by decide) (fun h3 => by first | exact absurd h3 (by decide) | exact absurd (by decide) h3) (fun _ => ?_)
  refine v_iload_n dX8_isUnder_20 rfl 1 rfl ?_
  refine v_iload_n dX8_isUnder_21 rfl 3 rfl ?_
  refine v_icmp_ne (tgt := 27) dX8_isUnder_22 (by decide) (fun h5 => ?_) (fun h5 => ?_)
  · refine v_getSABOVE uf_X8_301 dX8_isUnder_27 (fun tq6 htq6 => ?_)
    refine v_iload_n dX8_isUnder_30 rfl 1 rfl ?_
    refine v_tiload (j := 4) htq6 dX8_isUnder_31 rfl (by omega) (by decide) ?_
    refine v_is (y := 1) rfl ?_
    refine v_istore_n (lv2 := [(2, .int 1), (3, .int 0), (0, .int 4), (1, .int kz)]) dX8_isUnder_32 rfl (by decide) rfl ?_
    refine v_inc (v := 1) (lv2 := [(3, .int 1), (2, .int 1), (0, .int 4), (1, .int kz)]) dX8_isUnder_33 1 rfl (by decide) (by decide) rfl ?_
    refine v_goto (tgt := 4) dX8_isUnder_36 (by decide) ?_
    refine v_iload_n dX8_isUnder_4 rfl 0 rfl ?_
    refine v_bipush (v := 7) dX8_isUnder_5 (by decide) ?_
    refine v_icmp_ge (tgt := 39) dX8_isUnder_7 (by decide) (fun h7 => by first | exact absurd h7 (by decide) | exact absurd (by decide) h7) (fun _ => ?_)
    refine v_iload_n dX8_isUnder_10 rfl 1 rfl ?_
    refine v_if_lt (tgt := 39) dX8_isUnder_11 (by decide) (fun h8 => by first | exact absurd h8 (by decide) | exact absurd (by decide) h8) (fun _ => ?_)
    refine v_iload_n dX8_isUnder_14 rfl 1 rfl ?_
    refine v_bipush (v := 7) dX8_isUnder_15 (by decide) ?_
    refine v_icmp_ge (tgt := 39) dX8_isUnder_17 (by decide) (fun h9 => by first | exact absurd h9 (by decide) | exact absurd (by decide) h9) (fun _ => ?_)
    refine v_iload_n dX8_isUnder_20 rfl 1 rfl ?_
    refine v_iload_n dX8_isUnder_21 rfl 3 rfl ?_
    refine v_icmp_ne (tgt := 27) dX8_isUnder_22 (by decide) (fun h11 => ?_) (fun h11 => ?_)
    · refine v_getSABOVE uf_X8_301 dX8_isUnder_27 (fun tq12 htq12 => ?_)
      refine v_iload_n dX8_isUnder_30 rfl 1 rfl ?_
      refine v_tiload (j := 1) htq12 dX8_isUnder_31 rfl (by omega) (by decide) ?_
      refine v_is (y := 0) rfl ?_
      refine v_istore_n (lv2 := [(2, .int 0), (3, .int 1), (0, .int 4), (1, .int kz)]) dX8_isUnder_32 rfl (by decide) rfl ?_
      refine v_inc (v := 2) (lv2 := [(3, .int 2), (2, .int 0), (0, .int 4), (1, .int kz)]) dX8_isUnder_33 1 rfl (by decide) (by decide) rfl ?_
      refine v_goto (tgt := 4) dX8_isUnder_36 (by decide) ?_
      refine v_iload_n dX8_isUnder_4 rfl 0 rfl ?_
      refine v_bipush (v := 7) dX8_isUnder_5 (by decide) ?_
      refine v_icmp_ge (tgt := 39) dX8_isUnder_7 (by decide) (fun h13 => by first | exact absurd h13 (by decide) | exact absurd (by decide) h13) (fun _ => ?_)
      refine v_iload_n dX8_isUnder_10 rfl 1 rfl ?_
      refine v_if_lt (tgt := 39) dX8_isUnder_11 (by decide) (fun h14 => by first | exact absurd h14 (by decide) | exact absurd (by decide) h14) (fun _ => ?_)
      refine v_iload_n dX8_isUnder_14 rfl 1 rfl ?_
      refine v_bipush (v := 7) dX8_isUnder_15 (by decide) ?_
      refine v_icmp_ge (tgt := 39) dX8_isUnder_17 (by decide) (fun h15 => by first | exact absurd h15 (by decide) | exact absurd (by decide) h15) (fun _ => ?_)
      refine v_iload_n dX8_isUnder_20 rfl 1 rfl ?_
      refine v_iload_n dX8_isUnder_21 rfl 3 rfl ?_
      refine v_icmp_ne (tgt := 27) dX8_isUnder_22 (by decide) (fun h17 => ?_) (fun h17 => ?_)
      · refine v_getSABOVE uf_X8_301 dX8_isUnder_27 (fun tq18 htq18 => ?_)
        refine v_iload_n dX8_isUnder_30 rfl 1 rfl ?_
        refine v_tiload (j := 0) htq18 dX8_isUnder_31 rfl (by omega) (by decide) ?_
        refine v_is (y := (-1)) rfl ?_
        refine v_istore_n (lv2 := [(2, .int (-1)), (3, .int 2), (0, .int 4), (1, .int kz)]) dX8_isUnder_32 rfl (by decide) rfl ?_
        refine v_inc (v := 3) (lv2 := [(3, .int 3), (2, .int (-1)), (0, .int 4), (1, .int kz)]) dX8_isUnder_33 1 rfl (by decide) (by decide) rfl ?_
        refine v_goto (tgt := 4) dX8_isUnder_36 (by decide) ?_
        refine v_iload_n dX8_isUnder_4 rfl 0 rfl ?_
        refine v_bipush (v := 7) dX8_isUnder_5 (by decide) ?_
        refine v_icmp_ge (tgt := 39) dX8_isUnder_7 (by decide) (fun h19 => by first | exact absurd h19 (by decide) | exact absurd (by decide) h19) (fun _ => ?_)
        refine v_iload_n dX8_isUnder_10 rfl 1 rfl ?_
        refine v_if_lt (tgt := 39) dX8_isUnder_11 (by decide) (fun _ => ?_) (fun h20 => by first | exact absurd h20 (by decide) | exact absurd (by decide) h20)
        refine v_iconst (v := 0) dX8_isUnder_39 (by decide) ?_
        exact v_zret hr dX8_isUnder_40 (by first | rfl | exact nbq) (psi (bq_f (fun q => by rcases q with q | q | ⟨q, q2⟩ | ⟨q, q2⟩ | ⟨q, q2⟩ <;> first | (exact absurd q2 (by decide)) | (exact absurd q.symm (by assumption)) | (exact absurd q (by assumption)))).symm rfl)
      · refine v_iconst (v := 1) dX8_isUnder_25 (by decide) ?_
        exact v_zret hr dX8_isUnder_26 (by first | rfl | exact nbq) (psi (bq_t (by subst h17; unfold isUP; decide)).symm rfl)
    · refine v_iconst (v := 1) dX8_isUnder_25 (by decide) ?_
      exact v_zret hr dX8_isUnder_26 (by first | rfl | exact nbq) (psi (bq_t (by subst h11; unfold isUP; decide)).symm rfl)
  · refine v_iconst (v := 1) dX8_isUnder_25 (by decide) ?_
    exact v_zret hr dX8_isUnder_26 (by first | rfl | exact nbq) (psi (bq_t (by subst h5; unfold isUP; decide)).symm rfl)
set_option maxRecDepth 100000 in
set_option maxHeartbeats 1000000 in
theorem c_isUnder5 {g : Gl} {I : Ty} {L : TL} {na nt ni m : Nat} {nl : Nat → Nat} (kz : Int32)  : Ct g yX8_isUnder cX8_isUnder 4 (some .boolean) 0 0 0 [.int 5, .int kz] I L (RT na nt ni) (NT nl) (NB + m) (Ps (some (.int (bq (isUP 5 kz)))) (I) L (RT na nt ni) (NT nl) (NB + m)) := by
  refine ct_of (by decide +kernel) (Nat.le_of_ble_eq_true rfl) (fun F hnm hr => ?_)
  clear hnm
  show V g F cX8_isUnder RX8 4 0 0 [(0, .int 5), (1, .int kz)] [] I L (RT na nt ni) (NT nl) (NB + m) 0 0
  refine v_iload_n dX8_isUnder_0 rfl 0 rfl ?_
  refine v_istore_n (lv2 := [(2, .int 5), (0, .int 5), (1, .int kz)]) dX8_isUnder_1 rfl (by decide) rfl ?_
  refine v_iconst (v := 0) dX8_isUnder_2 (by decide) ?_
  refine v_istore_n (lv2 := [(3, .int 0), (2, .int 5), (0, .int 5), (1, .int kz)]) dX8_isUnder_3 rfl (by decide) rfl ?_
  refine v_iload_n dX8_isUnder_4 rfl 0 rfl ?_
  refine v_bipush (v := 7) dX8_isUnder_5 (by decide) ?_
  refine v_icmp_ge (tgt := 39) dX8_isUnder_7 (by decide) (fun h1 => by first | exact absurd h1 (by decide) | exact absurd (by decide) h1) (fun _ => ?_)
  refine v_iload_n dX8_isUnder_10 rfl 1 rfl ?_
  refine v_if_lt (tgt := 39) dX8_isUnder_11 (by decide) (fun h2 => by first | exact absurd h2 (by decide) | exact absurd (by decide) h2) (fun _ => ?_)
  refine v_iload_n dX8_isUnder_14 rfl 1 rfl ?_
  refine v_bipush (v := 7) dX8_isUnder_15 (by decide) ?_
  refine v_icmp_ge (tgt := 39) dX8_isUnder_17 (by decide) (fun h3 => by first | exact absurd h3 (by decide) | exact absurd (by decide) h3) (fun _ => ?_)
  refine v_iload_n dX8_isUnder_20 rfl 1 rfl ?_
  refine v_iload_n dX8_isUnder_21 rfl 3 rfl ?_
  refine v_icmp_ne (tgt := 27) dX8_isUnder_22 (by decide) (fun h5 => ?_) (fun h5 => ?_)
  · refine v_getSABOVE uf_X8_301 dX8_isUnder_27 (fun tq6 htq6 => ?_)
    refine v_iload_n dX8_isUnder_30 rfl 1 rfl ?_
    refine v_tiload (j := 5) htq6 dX8_isUnder_31 rfl (by omega) (by decide) ?_
    refine v_is (y := 2) rfl ?_
    refine v_istore_n (lv2 := [(2, .int 2), (3, .int 0), (0, .int 5), (1, .int kz)]) dX8_isUnder_32 rfl (by decide) rfl ?_
    refine v_inc (v := 1) (lv2 := [(3, .int 1), (2, .int 2), (0, .int 5), (1, .int kz)]) dX8_isUnder_33 1 rfl (by decide) (by decide) rfl ?_
    refine v_goto (tgt := 4) dX8_isUnder_36 (by decide) ?_
    refine v_iload_n dX8_isUnder_4 rfl 0 rfl ?_
    refine v_bipush (v := 7) dX8_isUnder_5 (by decide) ?_
    refine v_icmp_ge (tgt := 39) dX8_isUnder_7 (by decide) (fun h7 => by first | exact absurd h7 (by decide) | exact absurd (by decide) h7) (fun _ => ?_)
    refine v_iload_n dX8_isUnder_10 rfl 1 rfl ?_
    refine v_if_lt (tgt := 39) dX8_isUnder_11 (by decide) (fun h8 => by first | exact absurd h8 (by decide) | exact absurd (by decide) h8) (fun _ => ?_)
    refine v_iload_n dX8_isUnder_14 rfl 1 rfl ?_
    refine v_bipush (v := 7) dX8_isUnder_15 (by decide) ?_
    refine v_icmp_ge (tgt := 39) dX8_isUnder_17 (by decide) (fun h9 => by first | exact absurd h9 (by decide) | exact absurd (by decide) h9) (fun _ => ?_)
    refine v_iload_n dX8_isUnder_20 rfl 1 rfl ?_
    refine v_iload_n dX8_isUnder_21 rfl 3 rfl ?_
    refine v_icmp_ne (tgt := 27) dX8_isUnder_22 (by decide) (fun h11 => ?_) (fun h11 => ?_)
    · refine v_getSABOVE uf_X8_301 dX8_isUnder_27 (fun tq12 htq12 => ?_)
      refine v_iload_n dX8_isUnder_30 rfl 1 rfl ?_
      refine v_tiload (j := 2) htq12 dX8_isUnder_31 rfl (by omega) (by decide) ?_
      refine v_is (y := 0) rfl ?_
      refine v_istore_n (lv2 := [(2, .int 0), (3, .int 1), (0, .int 5), (1, .int kz)]) dX8_isUnder_32 rfl (by decide) rfl ?_
      refine v_inc (v := 2) (lv2 := [(3, .int 2), (2, .int 0), (0, .int 5), (1, .int kz)]) dX8_isUnder_33 1 rfl (by decide) (by decide) rfl ?_
      refine v_goto (tgt := 4) dX8_isUnder_36 (by decide) ?_
      refine v_iload_n dX8_isUnder_4 rfl 0 rfl ?_
      refine v_bipush (v := 7) dX8_isUnder_5 (by decide) ?_
      refine v_icmp_ge (tgt := 39) dX8_isUnder_7 (by decide) (fun h13 => by first | exact absurd h13 (by decide) | exact absurd (by decide) h13) (fun _ => ?_)
      refine v_iload_n dX8_isUnder_10 rfl 1 rfl ?_
      refine v_if_lt (tgt := 39) dX8_isUnder_11 (by decide) (fun h14 => by first | exact absurd h14 (by decide) | exact absurd (by decide) h14) (fun _ => ?_)
      refine v_iload_n dX8_isUnder_14 rfl 1 rfl ?_
      refine v_bipush (v := 7) dX8_isUnder_15 (by decide) ?_
      refine v_icmp_ge (tgt := 39) dX8_isUnder_17 (by decide) (fun h15 => by first | exact absurd h15 (by decide) | exact absurd (by decide) h15) (fun _ => ?_)
      refine v_iload_n dX8_isUnder_20 rfl 1 rfl ?_
      refine v_iload_n dX8_isUnder_21 rfl 3 rfl ?_
      refine v_icmp_ne (tgt := 27) dX8_isUnder_22 (by decide) (fun h17 => ?_) (fun h17 => ?_)
      · refine v_getSABOVE uf_X8_301 dX8_isUnder_27 (fun tq18 htq18 => ?_)
        refine v_iload_n dX8_isUnder_30 rfl 1 rfl ?_
        refine v_tiload (j := 0) htq18 dX8_isUnder_31 rfl (by omega) (by decide) ?_
        refine v_is (y := (-1)) rfl ?_
        refine v_istore_n (lv2 := [(2, .int (-1)), (3, .int 2), (0, .int 5), (1, .int kz)]) dX8_isUnder_32 rfl (by decide) rfl ?_
        refine v_inc (v := 3) (lv2 := [(3, .int 3), (2, .int (-1)), (0, .int 5), (1, .int kz)]) dX8_isUnder_33 1 rfl (by decide) (by decide) rfl ?_
        refine v_goto (tgt := 4) dX8_isUnder_36 (by decide) ?_
        refine v_iload_n dX8_isUnder_4 rfl 0 rfl ?_
        refine v_bipush (v := 7) dX8_isUnder_5 (by decide) ?_
        refine v_icmp_ge (tgt := 39) dX8_isUnder_7 (by decide) (fun h19 => by first | exact absurd h19 (by decide) | exact absurd (by decide) h19) (fun _ => ?_)
        refine v_iload_n dX8_isUnder_10 rfl 1 rfl ?_
        refine v_if_lt (tgt := 39) dX8_isUnder_11 (by decide) (fun _ => ?_) (fun h20 => by first | exact absurd h20 (by decide) | exact absurd (by decide) h20)
        refine v_iconst (v := 0) dX8_isUnder_39 (by decide) ?_
        exact v_zret hr dX8_isUnder_40 (by first | rfl | exact nbq) (psi (bq_f (fun q => by rcases q with q | q | ⟨q, q2⟩ | ⟨q, q2⟩ | ⟨q, q2⟩ <;> first | (exact absurd q2 (by decide)) | (exact absurd q.symm (by assumption)) | (exact absurd q (by assumption)))).symm rfl)
      · refine v_iconst (v := 1) dX8_isUnder_25 (by decide) ?_
        exact v_zret hr dX8_isUnder_26 (by first | rfl | exact nbq) (psi (bq_t (by subst h17; unfold isUP; decide)).symm rfl)
    · refine v_iconst (v := 1) dX8_isUnder_25 (by decide) ?_
      exact v_zret hr dX8_isUnder_26 (by first | rfl | exact nbq) (psi (bq_t (by subst h11; unfold isUP; decide)).symm rfl)
  · refine v_iconst (v := 1) dX8_isUnder_25 (by decide) ?_
    exact v_zret hr dX8_isUnder_26 (by first | rfl | exact nbq) (psi (bq_t (by subst h5; unfold isUP; decide)).symm rfl)
set_option maxRecDepth 100000 in
set_option maxHeartbeats 1000000 in
theorem c_isUnder6 {g : Gl} {I : Ty} {L : TL} {na nt ni m : Nat} {nl : Nat → Nat} (kz : Int32)  : Ct g yX8_isUnder cX8_isUnder 4 (some .boolean) 0 0 0 [.int 6, .int kz] I L (RT na nt ni) (NT nl) (NB + m) (Ps (some (.int (bq (isUP 6 kz)))) (I) L (RT na nt ni) (NT nl) (NB + m)) := by
  refine ct_of (by decide +kernel) (Nat.le_of_ble_eq_true rfl) (fun F hnm hr => ?_)
  clear hnm
  show V g F cX8_isUnder RX8 4 0 0 [(0, .int 6), (1, .int kz)] [] I L (RT na nt ni) (NT nl) (NB + m) 0 0
  refine v_iload_n dX8_isUnder_0 rfl 0 rfl ?_
  refine v_istore_n (lv2 := [(2, .int 6), (0, .int 6), (1, .int kz)]) dX8_isUnder_1 rfl (by decide) rfl ?_
  refine v_iconst (v := 0) dX8_isUnder_2 (by decide) ?_
  refine v_istore_n (lv2 := [(3, .int 0), (2, .int 6), (0, .int 6), (1, .int kz)]) dX8_isUnder_3 rfl (by decide) rfl ?_
  refine v_iload_n dX8_isUnder_4 rfl 0 rfl ?_
  refine v_bipush (v := 7) dX8_isUnder_5 (by decide) ?_
  refine v_icmp_ge (tgt := 39) dX8_isUnder_7 (by decide) (fun h1 => by first | exact absurd h1 (by decide) | exact absurd (by decide) h1) (fun _ => ?_)
  refine v_iload_n dX8_isUnder_10 rfl 1 rfl ?_
  refine v_if_lt (tgt := 39) dX8_isUnder_11 (by decide) (fun h2 => by first | exact absurd h2 (by decide) | exact absurd (by decide) h2) (fun _ => ?_)
  refine v_iload_n dX8_isUnder_14 rfl 1 rfl ?_
  refine v_bipush (v := 7) dX8_isUnder_15 (by decide) ?_
  refine v_icmp_ge (tgt := 39) dX8_isUnder_17 (by decide) (fun h3 => by first | exact absurd h3 (by decide) | exact absurd (by decide) h3) (fun _ => ?_)
  refine v_iload_n dX8_isUnder_20 rfl 1 rfl ?_
  refine v_iload_n dX8_isUnder_21 rfl 3 rfl ?_
  refine v_icmp_ne (tgt := 27) dX8_isUnder_22 (by decide) (fun h5 => ?_) (fun h5 => ?_)
  · refine v_getSABOVE uf_X8_301 dX8_isUnder_27 (fun tq6 htq6 => ?_)
    refine v_iload_n dX8_isUnder_30 rfl 1 rfl ?_
    refine v_tiload (j := 6) htq6 dX8_isUnder_31 rfl (by omega) (by decide) ?_
    refine v_is (y := 3) rfl ?_
    refine v_istore_n (lv2 := [(2, .int 3), (3, .int 0), (0, .int 6), (1, .int kz)]) dX8_isUnder_32 rfl (by decide) rfl ?_
    refine v_inc (v := 1) (lv2 := [(3, .int 1), (2, .int 3), (0, .int 6), (1, .int kz)]) dX8_isUnder_33 1 rfl (by decide) (by decide) rfl ?_
    refine v_goto (tgt := 4) dX8_isUnder_36 (by decide) ?_
    refine v_iload_n dX8_isUnder_4 rfl 0 rfl ?_
    refine v_bipush (v := 7) dX8_isUnder_5 (by decide) ?_
    refine v_icmp_ge (tgt := 39) dX8_isUnder_7 (by decide) (fun h7 => by first | exact absurd h7 (by decide) | exact absurd (by decide) h7) (fun _ => ?_)
    refine v_iload_n dX8_isUnder_10 rfl 1 rfl ?_
    refine v_if_lt (tgt := 39) dX8_isUnder_11 (by decide) (fun h8 => by first | exact absurd h8 (by decide) | exact absurd (by decide) h8) (fun _ => ?_)
    refine v_iload_n dX8_isUnder_14 rfl 1 rfl ?_
    refine v_bipush (v := 7) dX8_isUnder_15 (by decide) ?_
    refine v_icmp_ge (tgt := 39) dX8_isUnder_17 (by decide) (fun h9 => by first | exact absurd h9 (by decide) | exact absurd (by decide) h9) (fun _ => ?_)
    refine v_iload_n dX8_isUnder_20 rfl 1 rfl ?_
    refine v_iload_n dX8_isUnder_21 rfl 3 rfl ?_
    refine v_icmp_ne (tgt := 27) dX8_isUnder_22 (by decide) (fun h11 => ?_) (fun h11 => ?_)
    · refine v_getSABOVE uf_X8_301 dX8_isUnder_27 (fun tq12 htq12 => ?_)
      refine v_iload_n dX8_isUnder_30 rfl 1 rfl ?_
      refine v_tiload (j := 3) htq12 dX8_isUnder_31 rfl (by omega) (by decide) ?_
      refine v_is (y := 0) rfl ?_
      refine v_istore_n (lv2 := [(2, .int 0), (3, .int 1), (0, .int 6), (1, .int kz)]) dX8_isUnder_32 rfl (by decide) rfl ?_
      refine v_inc (v := 2) (lv2 := [(3, .int 2), (2, .int 0), (0, .int 6), (1, .int kz)]) dX8_isUnder_33 1 rfl (by decide) (by decide) rfl ?_
      refine v_goto (tgt := 4) dX8_isUnder_36 (by decide) ?_
      refine v_iload_n dX8_isUnder_4 rfl 0 rfl ?_
      refine v_bipush (v := 7) dX8_isUnder_5 (by decide) ?_
      refine v_icmp_ge (tgt := 39) dX8_isUnder_7 (by decide) (fun h13 => by first | exact absurd h13 (by decide) | exact absurd (by decide) h13) (fun _ => ?_)
      refine v_iload_n dX8_isUnder_10 rfl 1 rfl ?_
      refine v_if_lt (tgt := 39) dX8_isUnder_11 (by decide) (fun h14 => by first | exact absurd h14 (by decide) | exact absurd (by decide) h14) (fun _ => ?_)
      refine v_iload_n dX8_isUnder_14 rfl 1 rfl ?_
      refine v_bipush (v := 7) dX8_isUnder_15 (by decide) ?_
      refine v_icmp_ge (tgt := 39) dX8_isUnder_17 (by decide) (fun h15 => by first | exact absurd h15 (by decide) | exact absurd (by decide) h15) (fun _ => ?_)
      refine v_iload_n dX8_isUnder_20 rfl 1 rfl ?_
      refine v_iload_n dX8_isUnder_21 rfl 3 rfl ?_
      refine v_icmp_ne (tgt := 27) dX8_isUnder_22 (by decide) (fun h17 => ?_) (fun h17 => ?_)
      · refine v_getSABOVE uf_X8_301 dX8_isUnder_27 (fun tq18 htq18 => ?_)
        refine v_iload_n dX8_isUnder_30 rfl 1 rfl ?_
        refine v_tiload (j := 0) htq18 dX8_isUnder_31 rfl (by omega) (by decide) ?_
        refine v_is (y := (-1)) rfl ?_
        refine v_istore_n (lv2 := [(2, .int (-1)), (3, .int 2), (0, .int 6), (1, .int kz)]) dX8_isUnder_32 rfl (by decide) rfl ?_
        refine v_inc (v := 3) (lv2 := [(3, .int 3), (2, .int (-1)), (0, .int 6), (1, .int kz)]) dX8_isUnder_33 1 rfl (by decide) (by decide) rfl ?_
        refine v_goto (tgt := 4) dX8_isUnder_36 (by decide) ?_
        refine v_iload_n dX8_isUnder_4 rfl 0 rfl ?_
        refine v_bipush (v := 7) dX8_isUnder_5 (by decide) ?_
        refine v_icmp_ge (tgt := 39) dX8_isUnder_7 (by decide) (fun h19 => by first | exact absurd h19 (by decide) | exact absurd (by decide) h19) (fun _ => ?_)
        refine v_iload_n dX8_isUnder_10 rfl 1 rfl ?_
        refine v_if_lt (tgt := 39) dX8_isUnder_11 (by decide) (fun _ => ?_) (fun h20 => by first | exact absurd h20 (by decide) | exact absurd (by decide) h20)
        refine v_iconst (v := 0) dX8_isUnder_39 (by decide) ?_
        exact v_zret hr dX8_isUnder_40 (by first | rfl | exact nbq) (psi (bq_f (fun q => by rcases q with q | q | ⟨q, q2⟩ | ⟨q, q2⟩ | ⟨q, q2⟩ <;> first | (exact absurd q2 (by decide)) | (exact absurd q.symm (by assumption)) | (exact absurd q (by assumption)))).symm rfl)
      · refine v_iconst (v := 1) dX8_isUnder_25 (by decide) ?_
        exact v_zret hr dX8_isUnder_26 (by first | rfl | exact nbq) (psi (bq_t (by subst h17; unfold isUP; decide)).symm rfl)
    · refine v_iconst (v := 1) dX8_isUnder_25 (by decide) ?_
      exact v_zret hr dX8_isUnder_26 (by first | rfl | exact nbq) (psi (bq_t (by subst h11; unfold isUP; decide)).symm rfl)
  · refine v_iconst (v := 1) dX8_isUnder_25 (by decide) ?_
    exact v_zret hr dX8_isUnder_26 (by first | rfl | exact nbq) (psi (bq_t (by subst h5; unfold isUP; decide)).symm rfl)
theorem c_isUnder {g : Gl} {I : Ty} {L : TL} {na nt ni m : Nat} {nl : Nat → Nat} (a : Int32) (ha : inr a 7) (kz : Int32) : Ct g yX8_isUnder cX8_isUnder 4 (some .boolean) 0 0 0 [.int a, .int kz] I L (RT na nt ni) (NT nl) (NB + m) (Ps (some (.int (bq (isUP a kz)))) (I) L (RT na nt ni) (NT nl) (NB + m)) := by
  obtain ⟨n, rfl, hn, _, _⟩ := inr_ex ha (by omega)
  rcases (show n = 0 ∨ n = 1 ∨ n = 2 ∨ n = 3 ∨ n = 4 ∨ n = 5 ∨ n = 6 by omega) with e | e | e | e | e | e | e <;> subst e
  · exact c_isUnder0 kz
  · exact c_isUnder1 kz
  · exact c_isUnder2 kz
  · exact c_isUnder3 kz
  · exact c_isUnder4 kz
  · exact c_isUnder5 kz
  · exact c_isUnder6 kz
set_option maxRecDepth 100000 in
set_option maxHeartbeats 400000 in
theorem c_X8_taken {g : Gl} {I : Ty} {L : TL} {na nt ni m : Nat} {nl : Nat → Nat} (iz : Int32) (kz : Int32) (pp : Nat) (hpp : pp ≤ 6) (hpe : I 23 1 = nI pp) (hkd : ∀ p, p < 6 → inr (I 25 p) 7) : Ct g yX8_taken cX8_taken 4 (some .int) 2 0 0 [.ref (g.1 + 0), .int iz, .int kz] I L (RT na nt ni) (NT nl) (NB + m) (PZ na ni m nl (some (.int (ifc (inr kz 7) (ifc (inr iz pp) (ifc (isUP (I 25 (tn iz)) kz) (I 25 (tn iz)) (-12)) (-11)) (-2)))) (I) L) := by
  refine ct_of (by decide +kernel) (Nat.le_of_ble_eq_true rfl) (fun F hnm hr => ?_)
  clear hnm
  show V g F cX8_taken RX8 4 2 0 [(0, .ref (g.1 + 0)), (1, .int iz), (2, .int kz)] [] I L (RT na nt ni) (NT nl) (NB + m) 0 0
  refine v_iload_n dX8_taken_0 rfl 2 rfl ?_
  refine v_if_lt (tgt := 10) dX8_taken_1 (by decide) (fun h1 => ?_) (fun h1 => ?_)
  · -- kz lt 0
    have r2 : ¬ inr kz 7 := inr_lo h1
    -- not inr kz 7
    refine v_bipush (v := (-2)) dX8_taken_10 (by decide) ?_
    exact v_iret hr dX8_taken_12 (⟨congrArg (fun z => some (Value.int z)) (by first | rfl | (simp only [bq, ifc_T, ifc_F, inr_m1, and_true, true_and, and_false, false_and, or_true, true_or, or_false, false_or, not_true_eq_false, not_false_eq_true, and_self, or_self, h1, r2]; done) | (simp [bq, ifc_T, ifc_F, inr_m1, h1, r2]; done) | ((try simp only [bq]); repeat (first | rfl | (refine eq_t ?_ ?_; focus (first | omega | assumption | (simp [inr_m1, h1, r2]; done) | (simp [inr_m1, h1, r2]; omega) | (clear hr; (try clear hkn); simp_all; done))) | (refine eq_f ?_ ?_; focus (first | omega | assumption | (simp [inr_m1, h1, r2]; done) | (simp [inr_m1, h1, r2]; omega) | (clear hr; (try clear hkn); simp_all; done))) | (exfalso; clear hr; (try clear hkn); simp_all; done)))), ⟨_, scC_self _⟩, rfl, ⟨_, rfl⟩, rfl, rfl⟩)
  · -- kz ge 0
    refine v_iload_n dX8_taken_4 rfl 2 rfl ?_
    refine v_bipush (v := 7) dX8_taken_5 (by decide) ?_
    refine v_icmp_lt (tgt := 13) dX8_taken_7 (by decide) (fun h3 => ?_) (fun h3 => ?_)
    · -- kz lt 7
      have r4 : inr kz 7 := inr_mk (by omega) h1 (Int32.not_le.mpr h3)
      -- inr kz 7
      refine v_aload_n dX8_taken_13 rfl 0 rfl ?_
      refine v_iload_n dX8_taken_14 rfl 1 rfl ?_
      refine v_callVi (As := [.int iz]) (rest := []) lk_X8_74 (c_X8_isTraveller iz pp hpp hpe) dX8_taken_15 rfl (ltn rfl) rfl rfl (Nat.le_of_ble_eq_true rfl) (by decide) ?_
      refine v_ifb_ne (tgt := 24) dX8_taken_18 (by decide) (fun h5 => ?_) (fun h5 => ?_)
      · -- inr iz pp
        obtain ⟨P6, rfl, l7, t8, u9⟩ := inr_ex h5 (by omega)
        refine v_aload_n dX8_taken_24 rfl 0 rfl ?_
        refine v_get (v := .ref (g.1 + 23)) fa_X8_51 dX8_taken_25 rfl (by decide) (ltn rfl) rfl ?_
        refine v_get (v := .ref (g.1 + 25)) fa_X8_77 dX8_taken_28 rfl (by decide) (ltn rfl) rfl ?_
        refine v_iload_n dX8_taken_31 rfl 1 rfl ?_
        refine v_iaload (len := 6) (j := P6) dX8_taken_32 rfl (ltn rfl) rfl (by decide) rfl (by omega) ?_
        refine v_istore_n (lv2 := [(3, .int (I 25 P6)), (0, .ref (g.1 + 0)), (1, .int (nI P6)), (2, .int kz)]) dX8_taken_33 rfl (by decide) rfl ?_
        refine v_iload_n dX8_taken_34 rfl 0 rfl ?_
        refine v_iload_n dX8_taken_35 rfl 3 rfl ?_
        refine v_callSi (As := [.int (I 25 P6), .int kz]) (rest := []) lk_X8_281 (c_isUnder (I 25 P6) (hkd _ (by omega)) kz) dX8_taken_36 rfl rfl (Nat.le_of_ble_eq_true rfl) (by decide) ?_
        refine v_ifb_eq (tgt := 46) dX8_taken_39 (by decide) (fun h10 => ?_) (fun h10 => ?_)
        · -- not (isUP (I 25 P6) kz)
          refine v_bipush (v := (-12)) dX8_taken_46 (by decide) ?_
          exact v_iret hr dX8_taken_48 (⟨congrArg (fun z => some (Value.int z)) (by first | rfl | (simp only [bq, ifc_T, ifc_F, inr_m1, and_true, true_and, and_false, false_and, or_true, true_or, or_false, false_or, not_true_eq_false, not_false_eq_true, and_self, or_self, h1, h3, r4, h5, t8, u9, l7, h10]; done) | (simp [bq, ifc_T, ifc_F, inr_m1, h1, h3, r4, h5, t8, u9, l7, h10]; done) | ((try simp only [bq]); repeat (first | rfl | (refine eq_t ?_ ?_; focus (first | omega | assumption | (simp [inr_m1, h1, h3, r4, h5, t8, u9, l7, h10]; done) | (simp [inr_m1, h1, h3, r4, h5, t8, u9, l7, h10]; omega) | (simp only [u9]; omega) | (clear hr; (try clear hkn); simp_all; done))) | (refine eq_f ?_ ?_; focus (first | omega | assumption | (simp [inr_m1, h1, h3, r4, h5, t8, u9, l7, h10]; done) | (simp [inr_m1, h1, h3, r4, h5, t8, u9, l7, h10]; omega) | (simp only [u9]; omega) | (clear hr; (try clear hkn); simp_all; done))) | (simp only [t8]; done) | (exfalso; clear hr; (try clear hkn); simp_all; done)))), ⟨_, scC_self _⟩, rfl, ⟨_, rfl⟩, rfl, rfl⟩)
        · -- (isUP (I 25 P6) kz)
          refine v_iload_n dX8_taken_42 rfl 0 rfl ?_
          refine v_goto (tgt := 48) dX8_taken_43 (by decide) ?_
          exact v_iret hr dX8_taken_48 (⟨congrArg (fun z => some (Value.int z)) (by first | rfl | (simp only [bq, ifc_T, ifc_F, inr_m1, and_true, true_and, and_false, false_and, or_true, true_or, or_false, false_or, not_true_eq_false, not_false_eq_true, and_self, or_self, h1, h3, r4, h5, t8, u9, l7, h10]; done) | (simp [bq, ifc_T, ifc_F, inr_m1, h1, h3, r4, h5, t8, u9, l7, h10]; done) | ((try simp only [bq]); repeat (first | rfl | (refine eq_t ?_ ?_; focus (first | omega | assumption | (simp [inr_m1, h1, h3, r4, h5, t8, u9, l7, h10]; done) | (simp [inr_m1, h1, h3, r4, h5, t8, u9, l7, h10]; omega) | (simp only [u9]; omega) | (clear hr; (try clear hkn); simp_all; done))) | (refine eq_f ?_ ?_; focus (first | omega | assumption | (simp [inr_m1, h1, h3, r4, h5, t8, u9, l7, h10]; done) | (simp [inr_m1, h1, h3, r4, h5, t8, u9, l7, h10]; omega) | (simp only [u9]; omega) | (clear hr; (try clear hkn); simp_all; done))) | (simp only [t8]; done) | (exfalso; clear hr; (try clear hkn); simp_all; done)))), ⟨_, scC_self _⟩, rfl, ⟨_, rfl⟩, rfl, rfl⟩)
      · -- not inr iz pp
        refine v_bipush (v := (-11)) dX8_taken_21 (by decide) ?_
        exact v_iret hr dX8_taken_23 (⟨congrArg (fun z => some (Value.int z)) (by first | rfl | (simp only [bq, ifc_T, ifc_F, inr_m1, and_true, true_and, and_false, false_and, or_true, true_or, or_false, false_or, not_true_eq_false, not_false_eq_true, and_self, or_self, h1, h3, r4, h5]; done) | (simp [bq, ifc_T, ifc_F, inr_m1, h1, h3, r4, h5]; done) | ((try simp only [bq]); repeat (first | rfl | (refine eq_t ?_ ?_; focus (first | omega | assumption | (simp [inr_m1, h1, h3, r4, h5]; done) | (simp [inr_m1, h1, h3, r4, h5]; omega) | (clear hr; (try clear hkn); simp_all; done))) | (refine eq_f ?_ ?_; focus (first | omega | assumption | (simp [inr_m1, h1, h3, r4, h5]; done) | (simp [inr_m1, h1, h3, r4, h5]; omega) | (clear hr; (try clear hkn); simp_all; done))) | (exfalso; clear hr; (try clear hkn); simp_all; done)))), ⟨_, scC_self _⟩, rfl, ⟨_, rfl⟩, rfl, rfl⟩)
    · -- kz ge 7
      have r11 : ¬ inr kz 7 := inr_hi (by omega) (Int32.not_lt.mp h3)
      -- not inr kz 7
      refine v_bipush (v := (-2)) dX8_taken_10 (by decide) ?_
      exact v_iret hr dX8_taken_12 (⟨congrArg (fun z => some (Value.int z)) (by first | rfl | (simp only [bq, ifc_T, ifc_F, inr_m1, and_true, true_and, and_false, false_and, or_true, true_or, or_false, false_or, not_true_eq_false, not_false_eq_true, and_self, or_self, h1, h3, r11]; done) | (simp [bq, ifc_T, ifc_F, inr_m1, h1, h3, r11]; done) | ((try simp only [bq]); repeat (first | rfl | (refine eq_t ?_ ?_; focus (first | omega | assumption | (simp [inr_m1, h1, h3, r11]; done) | (simp [inr_m1, h1, h3, r11]; omega) | (clear hr; (try clear hkn); simp_all; done))) | (refine eq_f ?_ ?_; focus (first | omega | assumption | (simp [inr_m1, h1, h3, r11]; done) | (simp [inr_m1, h1, h3, r11]; omega) | (clear hr; (try clear hkn); simp_all; done))) | (exfalso; clear hr; (try clear hkn); simp_all; done)))), ⟨_, scC_self _⟩, rfl, ⟨_, rfl⟩, rfl, rfl⟩)
