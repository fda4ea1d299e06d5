section
variable (ga kd vv rw : Nat → Int32) (pp : Nat) (ns : (Int32 → Int32) → Int32 → Int32) (fd : Int32) (less : Int32 → Int32) (pw pq : Nat → Int32) (y : ZG)
noncomputable def plN : Nat → ZG
  | 0 => y
  | k + 1 => plan1 ga kd vv rw pp ns fd less (plN k) (tn (pw k)) (tn (pq k))
end
def okP (pn : Nat) (pw pq : Nat → Int32) : Prop := ∀ k, k < pn → ∃ w q, pw k = nI w ∧ pq k = nI q ∧ w < 4 ∧ planOK w q
section
variable {ga kd vv rw : Nat → Int32} {pp : Nat} {ns : (Int32 → Int32) → Int32 → Int32} {fd : Int32} {less : Int32 → Int32} {pw pq : Nat → Int32} {y : ZG}
theorem plan1_ok {w q : Nat} (hpp : pp ≤ 6) (hq : planOK w q) (h : okS y.1.1) (hg : okG y.2) : okS (plan1 ga kd vv rw pp ns fd less y w q).1.1 ∧ okG (plan1 ga kd vv rw pp ns fd less y w q).2 := by
  unfold plan1
  by_cases h0 : w = 0
  · rw [ifc_t h0]; exact ⟨hour1_ok hpp h hg, hg⟩
  · rw [ifc_f h0]
    by_cases h1 : w = 1
    · rw [ifc_t h1]; exact ⟨h, hg⟩
    · rw [ifc_f h1]
      by_cases h2 : w = 2
      · rw [ifc_t h2]; exact ⟨h, hg⟩
      · rw [ifc_f h2]
        refine ⟨h, fun p hp => ?_⟩
        by_cases e : p = q
        · subst e
          exact Or.inl (by show va_up y.2 p (-5) p < 0; rw [up_at]; decide)
        · show va_up y.2 q (-5) p < 0 ∨ ∃ c, c < 16 ∧ va_up y.2 q (-5) p = nI c
          rw [up_off _ _ e]; exact hg p hp
theorem plN_ok {pn : Nat} (hpp : pp ≤ 6) (hP : okP pn pw pq) (h : okS y.1.1) (hg : okG y.2) : ∀ k, k ≤ pn → okS (plN ga kd vv rw pp ns fd less pw pq y k).1.1 ∧ okG (plN ga kd vv rw pp ns fd less pw pq y k).2
  | 0, _ => ⟨h, hg⟩
  | k + 1, hk => by
    have ih := plN_ok hpp hP h hg k (by omega)
    obtain ⟨w, q, e1, e2, hw, hq⟩ := hP k (by omega)
    have hq2 := hq.1
    show okS (plan1 ga kd vv rw pp ns fd less _ (tn (pw k)) (tn (pq k))).1.1 ∧ okG (plan1 ga kd vv rw pp ns fd less _ (tn (pw k)) (tn (pq k))).2
    rw [e1, e2, tn_nI (by omega), tn_nI hq2]
    exact plan1_ok hpp hq ih.1 ih.2
theorem plan1_off {w q : Nat} {t : ZG} (hpp : pp ≤ 6) (hq : planOK w q) (h : offT y.1.1 t.1.1 ∧ ∀ j, 6 ≤ j → y.2 j = t.2 j) : offT (plan1 ga kd vv rw pp ns fd less y w q).1.1 t.1.1 ∧ ∀ j, 6 ≤ j → (plan1 ga kd vv rw pp ns fd less y w q).2 j = t.2 j := by
  obtain ⟨h, hg⟩ := h
  unfold plan1
  by_cases h0 : w = 0
  · rw [ifc_t h0]; exact ⟨hour1_off hpp h, hg⟩
  · rw [ifc_f h0]
    obtain ⟨hq0, hqq⟩ := hq
    by_cases h1 : w = 1
    · rw [ifc_t h1]; exact ⟨fun j hj => ⟨(h j hj).1, (up_off _ _ (by omega)).trans (h j hj).2.1, (h j hj).2.2⟩, hg⟩
    · rw [ifc_f h1]
      by_cases h2 : w = 2
      · rw [ifc_t h2]; exact ⟨fun j hj => ⟨(h j hj).1, (up_off _ _ (by omega)).trans (h j hj).2.1, (h j hj).2.2⟩, hg⟩
      · rw [ifc_f h2]
        exact ⟨h, fun j hj => (up_off _ _ (by omega)).trans (hg j hj)⟩
theorem plN_off {pn : Nat} (hpp : pp ≤ 6) (hP : okP pn pw pq) : ∀ k, k ≤ pn → offT (plN ga kd vv rw pp ns fd less pw pq y k).1.1 y.1.1 ∧ ∀ j, 6 ≤ j → (plN ga kd vv rw pp ns fd less pw pq y k).2 j = y.2 j
  | 0, _ => ⟨fun _ _ => ⟨rfl, rfl, rfl⟩, fun _ _ => rfl⟩
  | k + 1, hk => by
    have ih := plN_off hpp hP k (by omega)
    obtain ⟨w, q, e1, e2, hw, hq⟩ := hP k (by omega)
    have hq2 := hq.1
    show offT (plan1 ga kd vv rw pp ns fd less _ (tn (pw k)) (tn (pq k))).1.1 y.1.1 ∧ ∀ j, 6 ≤ j → (plan1 ga kd vv rw pp ns fd less _ (tn (pw k)) (tn (pq k))).2 j = y.2 j
    rw [e1, e2, tn_nI (by omega), tn_nI hq2]
    exact plan1_off hpp hq ih
end
theorem pb_trialG {I : Ty} (hM : I 65 29 = 9999) (y : ZG) (f h : Nat → Int32) (ho : offT y.1.1 (mget I)) (hg : ∀ j, 6 ≤ j → y.2 j = I 70 j) : pbd (scr (mputG (svd I) y) f h) = sck I (scr (mputG (svd I) y) f h) (I 65 1) := by
  have e : (scr (mputG (svd I) y) f h) 65 30 = I 65 1 := rfl
  rw [← e]
  refine pb_gen hM ?_ ?_ ?_
  · intro a h1 h2 h3 h4 h5 h6 h7
    rw [scr_off _ _ _ _ h6 h7]
    show va_up (mputH (svd I) y.1) 70 _ a = _
    rw [up_off _ _ h3]
    show va_up (mput (svd I) y.1.1) 65 _ a = _
    rw [up_off _ _ h1]
    show va_up (va_up (va_up (svd I) 69 _) 71 _) 72 _ a = _
    rw [up_off _ _ h5, up_off _ _ h4, up_off _ _ h2]
  · intro j hj
    show va_up (svd I 65) 1 y.1.2 j = svd I 65 j
    rw [up_off _ _ hj]
  · intro j hj
    exact ⟨(ho j hj).1, hg j hj, (ho j hj).2.1, (ho j hj).2.2⟩
noncomputable def endsV (I : Ty) (pp pn : Nat) (wz : Int32) : Int32 := ifc (wz = 0) (nI (bitc (arrF (plN (I 66) (I 67) (I 68) (I 73) pp (msum I) (mfade I) (lessM 2000000000) (I 92) (I 93) (mgetG I) pn).1.1.1 (plN (I 66) (I 67) (I 68) (I 73) pp (msum I) (mfade I) (lessM 2000000000) (I 92) (I 93) (mgetG I) pn).2 pp) 16)) (sumF (plN (I 66) (I 67) (I 68) (I 73) pp (msum I) (mfade I) (lessM 2000000000) (I 92) (I 93) (mgetG I) pn).1.1.2.2 pp)
set_option maxRecDepth 100000 in
set_option maxHeartbeats 4000000 in
theorem c_X9_ends {g : Gl} {I : Ty} {L : TL} {na nt ni m : Nat} {nl : Nat → Nat} (wz : Int32) (pp : Nat) (hpp : pp ≤ 6) (hpe : I 65 0 = nI pp) (hN : mOK I) (hS : okS (mget I)) (hG : okG (I 70)) (hM : I 65 29 = 9999) (pn : Nat) (hpl : pn ≤ 8) (hpn : I 65 39 = nI pn) (hP : okP pn (I 92) (I 93)) : Ct g yX9_ends cX9_ends 3 (some .int) 7 0 0 [.ref (g.1 + 65), .int wz] I L (RT na nt ni) (NT nl) (NB + m) (Pk (some (.int (ifc (inr wz 2) (endsV I pp pn wz) (-1)))) (I) L (RT na nt ni) (NT nl) (NB + m)) := by
  refine ct_of (by decide +kernel) (Nat.le_of_ble_eq_true rfl) (fun F hnm hr => ?_)
  clear hnm
  show V g F cX9_ends RX9 3 7 0 [(0, .ref (g.1 + 65)), (1, .int wz)] [] I L (RT na nt ni) (NT nl) (NB + m) 0 0
  refine v_aload_n dX9_ends_0 rfl 0 rfl ?_
  refine v_iload_n dX9_ends_1 rfl 1 rfl ?_
  refine v_iconst (v := 0) dX9_ends_2 (by decide) ?_
  refine v_iconst (v := 1) dX9_ends_3 (by decide) ?_
  refine v_callVi (As := [.int wz, .int 0, .int 1]) (rest := []) lk_X9_237 (c_in0 wz 1 (by decide)) dX9_ends_4 rfl (ltn rfl) rfl rfl (Nat.le_of_ble_eq_true rfl) (by decide) ?_
  refine v_ifb_ne (tgt := 12) dX9_ends_7 (by decide) (fun h1 => ?_) (fun h1 => ?_)
  · -- inr wz 2
    refine v_aload_n dX9_ends_12 rfl 0 rfl ?_
    refine v_callVv (As := []) (rest := []) lk_X9_359 (c_X9_save) dX9_ends_13 rfl (ltn rfl) rfl rfl (Nat.le_of_ble_eq_true rfl) (by decide) ?_
    refine v_iconst (v := 0) dX9_ends_16 (by decide) ?_
    refine v_istore_n (lv2 := [(2, .int 0), (0, .ref (g.1 + 65)), (1, .int wz)]) dX9_ends_17 rfl (by decide) rfl ?_
    refine v_lv (lv2 := [(2, .int (nI 0)), (0, .ref (g.1 + 65)), (1, .int wz)]) (by rfl) ?_
    refine v_I (I2 := (scr (mputG (svd I) (mgetG I)) (I 83) (I 84))) (by show svd I = scr (mputG (svd I) (mgetG (svd I))) ((svd I) 83) ((svd I) 84); rw [mputG_self]; exact scr_self _) ?_
    refine dloop (P := fun i => ∀ (fq : Nat → Int32) (hq : Nat → Int32), V g F cX9_ends RX9 3 7 18 [(2, .int (nI i)), (0, .ref (g.1 + 65)), (1, .int wz)] [] (scr (mputG (svd I) (plN (I 66) (I 67) (I 68) (I 73) pp (msum I) (mfade I) (lessM 2000000000) (I 92) (I 93) (mgetG I) i)) fq hq) L (RT na nt ni) (NT nl) (NB + m) 0 0) pn ?_ ?_ 0 (Nat.zero_le _) (I 83) (I 84)
    · intro fq hq
      refine v_iload_n dX9_ends_18 rfl 0 rfl ?_
      refine v_aload_n dX9_ends_19 rfl 1 rfl ?_
      refine v_get (v := .int ((scr (mputG (svd I) (plN (I 66) (I 67) (I 68) (I 73) pp (msum I) (mfade I) (lessM 2000000000) (I 92) (I 93) (mgetG I) pn)) fq hq) 65 39)) fa_X9_129 dX9_ends_20 rfl (by decide) (ltn rfl) rfl ?_
      refine v_is (y := I 65 39) (by rfl) ?_
      refine v_is hpn ?_
      refine v_icmp_geN (a := pn) (b := pn) (tgt := 48) dX9_ends_23 (by decide) rfl rfl (by omega) (by omega) (fun h2 => ?_) (fun h => by exfalso; omega)
      refine v_iload_n dX9_ends_48 rfl 2 rfl ?_
      refine v_if_ne (tgt := 63) dX9_ends_49 (by decide) (fun h3 => ?_) (fun h3 => ?_)
      · -- wz ne 0
        refine v_aload_n dX9_ends_63 rfl 1 rfl ?_
        refine v_callVi (As := []) (rest := []) lk_X9_395 (c_X9_allNoes (I := (scr (mputG (svd I) (plN (I 66) (I 67) (I 68) (I 73) pp (msum I) (mfade I) (lessM 2000000000) (I 92) (I 93) (mgetG I) pn)) fq hq)) pp hpp hpe) dX9_ends_64 rfl (ltn rfl) rfl rfl (Nat.le_of_ble_eq_true rfl) (by decide) ?_
        refine v_istore_n (lv2 := [(2, .int (sumF (plN (I 66) (I 67) (I 68) (I 73) pp (msum I) (mfade I) (lessM 2000000000) (I 92) (I 93) (mgetG I) pn).1.1.2.2 pp)), (0, .ref (g.1 + 65)), (1, .int wz)]) dX9_ends_67 rfl (by decide) rfl ?_
        refine v_aload_n dX9_ends_68 rfl 1 rfl ?_
        refine v_callVv (As := []) (rest := []) lk_X9_362 (c_X9_putBack (I := (scr (mputG (svd I) (plN (I 66) (I 67) (I 68) (I 73) pp (msum I) (mfade I) (lessM 2000000000) (I 92) (I 93) (mgetG I) pn)) fq hq))) dX9_ends_69 rfl (ltn rfl) rfl rfl (Nat.le_of_ble_eq_true rfl) (by decide) ?_
        refine v_I (pb_trialG hM _ _ _ (plN_off hpp hP pn (Nat.le_refl _)).1 (plN_off hpp hP pn (Nat.le_refl _)).2) ?_
        refine v_iload_n dX9_ends_72 rfl 0 rfl ?_
        exact v_iret hr dX9_ends_73 (⟨congrArg (fun z => some (Value.int z)) (by first | rfl | (simp only [bq, ifc_T, ifc_F, inr_m1, and_true, true_and, and_false, false_and, or_true, true_or, or_false, false_or, not_true_eq_false, not_false_eq_true, and_self, or_self, h1, h2, h3, endsV]; done) | (simp [bq, ifc_T, ifc_F, inr_m1, h1, h2, h3, endsV]; done) | ((try simp only [bq, endsV]); repeat (first | rfl | (refine eq_t ?_ ?_; focus (first | omega | assumption | (simp [inr_m1, h1, h2, h3]; done) | (simp [inr_m1, h1, h2, h3]; omega) | (clear hr; (try clear hkn); simp_all; done))) | (refine eq_f ?_ ?_; focus (first | omega | assumption | (simp [inr_m1, h1, h2, h3]; done) | (simp [inr_m1, h1, h2, h3]; omega) | (clear hr; (try clear hkn); simp_all; done))) | (exfalso; clear hr; (try clear hkn); simp_all; done)))), ⟨_, _, rfl⟩, rfl, rfl, rfl, rfl⟩)
      · -- wz eq 0
        refine v_aload_n dX9_ends_52 rfl 1 rfl ?_
        refine v_aload_n dX9_ends_53 rfl 1 rfl ?_
        refine v_callVi (As := []) (rest := [.ref (g.1 + 65)]) lk_X9_392 (c_X9_arrived (I := (scr (mputG (svd I) (plN (I 66) (I 67) (I 68) (I 73) pp (msum I) (mfade I) (lessM 2000000000) (I 92) (I 93) (mgetG I) pn)) fq hq)) pp hpp hpe) dX9_ends_54 rfl (ltn rfl) rfl rfl (Nat.le_of_ble_eq_true rfl) (by decide) ?_
        refine v_callVi (As := [.int (arrF (plN (I 66) (I 67) (I 68) (I 73) pp (msum I) (mfade I) (lessM 2000000000) (I 92) (I 93) (mgetG I) pn).1.1.1 (plN (I 66) (I 67) (I 68) (I 73) pp (msum I) (mfade I) (lessM 2000000000) (I 92) (I 93) (mgetG I) pn).2 pp)]) (rest := []) lk_X9_315 (c_X9_bits (arrF (plN (I 66) (I 67) (I 68) (I 73) pp (msum I) (mfade I) (lessM 2000000000) (I 92) (I 93) (mgetG I) pn).1.1.1 (plN (I 66) (I 67) (I 68) (I 73) pp (msum I) (mfade I) (lessM 2000000000) (I 92) (I 93) (mgetG I) pn).2 pp)) dX9_ends_57 rfl (ltn rfl) rfl rfl (Nat.le_of_ble_eq_true rfl) (by decide) ?_
        refine v_goto (tgt := 67) dX9_ends_60 (by decide) ?_
        refine v_istore_n (lv2 := [(2, .int (nI (bitc (arrF (plN (I 66) (I 67) (I 68) (I 73) pp (msum I) (mfade I) (lessM 2000000000) (I 92) (I 93) (mgetG I) pn).1.1.1 (plN (I 66) (I 67) (I 68) (I 73) pp (msum I) (mfade I) (lessM 2000000000) (I 92) (I 93) (mgetG I) pn).2 pp) 16))), (0, .ref (g.1 + 65)), (1, .int wz)]) dX9_ends_67 rfl (by decide) rfl ?_
        refine v_aload_n dX9_ends_68 rfl 1 rfl ?_
        refine v_callVv (As := []) (rest := []) lk_X9_362 (c_X9_putBack (I := (scr (mputG (svd I) (plN (I 66) (I 67) (I 68) (I 73) pp (msum I) (mfade I) (lessM 2000000000) (I 92) (I 93) (mgetG I) pn)) fq hq))) dX9_ends_69 rfl (ltn rfl) rfl rfl (Nat.le_of_ble_eq_true rfl) (by decide) ?_
        refine v_I (pb_trialG hM _ _ _ (plN_off hpp hP pn (Nat.le_refl _)).1 (plN_off hpp hP pn (Nat.le_refl _)).2) ?_
        refine v_iload_n dX9_ends_72 rfl 0 rfl ?_
        exact v_iret hr dX9_ends_73 (⟨congrArg (fun z => some (Value.int z)) (by first | rfl | (simp only [bq, ifc_T, ifc_F, inr_m1, and_true, true_and, and_false, false_and, or_true, true_or, or_false, false_or, not_true_eq_false, not_false_eq_true, and_self, or_self, h1, h2, h3, endsV]; done) | (simp [bq, ifc_T, ifc_F, inr_m1, h1, h2, h3, endsV]; done) | ((try simp only [bq, endsV]); repeat (first | rfl | (refine eq_t ?_ ?_; focus (first | omega | assumption | (simp [inr_m1, h1, h2, h3]; done) | (simp [inr_m1, h1, h2, h3]; omega) | (clear hr; (try clear hkn); simp_all; done))) | (refine eq_f ?_ ?_; focus (first | omega | assumption | (simp [inr_m1, h1, h2, h3]; done) | (simp [inr_m1, h1, h2, h3]; omega) | (clear hr; (try clear hkn); simp_all; done))) | (exfalso; clear hr; (try clear hkn); simp_all; done)))), ⟨_, _, rfl⟩, rfl, rfl, rfl, rfl⟩)
    · intro i hi ih
      intro fq hq
      obtain ⟨wq, qq, hwe, hqe, hwq, hqk⟩ := hP i hi
      have hq31 := hqk.1
      have tw : tn (I 92 i) = wq := by rw [hwe, tn_nI (by omega)]
      have tq : tn (I 93 i) = qq := by rw [hqe, tn_nI hq31]
      refine v_iload_n dX9_ends_18 rfl 0 rfl ?_
      refine v_aload_n dX9_ends_19 rfl 1 rfl ?_
      refine v_get (v := .int ((scr (mputG (svd I) (plN (I 66) (I 67) (I 68) (I 73) pp (msum I) (mfade I) (lessM 2000000000) (I 92) (I 93) (mgetG I) i)) fq hq) 65 39)) fa_X9_129 dX9_ends_20 rfl (by decide) (ltn rfl) rfl ?_
      refine v_is (y := I 65 39) (by rfl) ?_
      refine v_is hpn ?_
      refine v_icmp_geN (a := i) (b := pn) (tgt := 48) dX9_ends_23 (by decide) rfl rfl (by omega) (by omega) (fun h => by exfalso; omega) (fun h4 => ?_)
      refine v_aload_n dX9_ends_26 rfl 1 rfl ?_
      refine v_aload_n dX9_ends_27 rfl 1 rfl ?_
      refine v_get (v := .ref (g.1 + 92)) fa_X9_135 dX9_ends_28 rfl (by decide) (ltn rfl) rfl ?_
      refine v_iload_n dX9_ends_31 rfl 0 rfl ?_
      refine v_iaload (len := 8) (j := i) dX9_ends_32 rfl (ltn rfl) rfl (by decide) rfl (by omega) ?_
      refine v_is (y := I 92 i) (by rfl) ?_
      refine v_is (y := nI wq) hwe ?_
      refine v_aload_n dX9_ends_33 rfl 1 rfl ?_
      refine v_get (v := .ref (g.1 + 93)) fa_X9_138 dX9_ends_34 rfl (by decide) (ltn rfl) rfl ?_
      refine v_iload_n dX9_ends_37 rfl 0 rfl ?_
      refine v_iaload (len := 8) (j := i) dX9_ends_38 rfl (ltn rfl) rfl (by decide) rfl (by omega) ?_
      refine v_is (y := I 93 i) (by rfl) ?_
      refine v_is (y := nI qq) hqe ?_
      refine v_callVqv (As := [.int (nI wq), .int (nI qq)]) (rest := []) lk_X9_407 (c_X9_goPlan (I := (scr (mputG (svd I) (plN (I 66) (I 67) (I 68) (I 73) pp (msum I) (mfade I) (lessM 2000000000) (I 92) (I 93) (mgetG I) i)) fq hq)) wq qq hqk pp hpp hpe hN (plN_ok (pn := pn) (ga := I 66) (kd := I 67) (vv := I 68) (rw := I 73) (ns := msum I) (fd := mfade I) (less := lessM 2000000000) (y := mgetG I) hpp hP hS hG i (by omega)).1 (plN_ok (pn := pn) (ga := I 66) (kd := I 67) (vv := I 68) (rw := I 73) (ns := msum I) (fd := mfade I) (less := lessM 2000000000) (y := mgetG I) hpp hP hS hG i (by omega)).2) dX9_ends_39 rfl (ltn rfl) rfl rfl (Nat.le_of_ble_eq_true rfl) (by decide) (fun fq5 hq6 => ?_)
      refine v_I (mputG_norm _ _ _ _ _ _ _) ?_
      refine v_inc (v := nI (i + 1)) (lv2 := [(2, .int (nI (i + 1))), (0, .ref (g.1 + 65)), (1, .int wz)]) dX9_ends_42 0 rfl (nx_inc rfl) (by decide) rfl ?_
      refine v_goto (tgt := 18) dX9_ends_45 (by decide) ?_
      refine v_I (I2 := (scr (mputG (svd I) (plN (I 66) (I 67) (I 68) (I 73) pp (msum I) (mfade I) (lessM 2000000000) (I 92) (I 93) (mgetG I) (i + 1))) fq5 hq6)) (by rw [show plN (I 66) (I 67) (I 68) (I 73) pp (msum I) (mfade I) (lessM 2000000000) (I 92) (I 93) (mgetG I) (i + 1) = plan1 (I 66) (I 67) (I 68) (I 73) pp (msum I) (mfade I) (lessM 2000000000) (plN (I 66) (I 67) (I 68) (I 73) pp (msum I) (mfade I) (lessM 2000000000) (I 92) (I 93) (mgetG I) i) (tn (I 92 i)) (tn (I 93 i)) from rfl, tw, tq]; rfl) ?_
      exact ih _ _
  · -- not inr wz 2
    refine v_iconst (v := (-1)) dX9_ends_10 (by decide) ?_
    exact v_iret hr dX9_ends_11 (⟨congrArg (fun z => some (Value.int z)) (by first | rfl | (simp only [bq, ifc_T, ifc_F, inr_m1, and_true, true_and, and_false, false_and, or_true, true_or, or_false, false_or, not_true_eq_false, not_false_eq_true, and_self, or_self, h1, endsV]; done) | (simp [bq, ifc_T, ifc_F, inr_m1, h1, endsV]; done) | ((try simp only [bq, endsV]); repeat (first | rfl | (refine eq_t ?_ ?_; focus (first | omega | assumption | (simp [inr_m1, h1]; done) | (simp [inr_m1, h1]; omega) | (clear hr; (try clear hkn); simp_all; done))) | (refine eq_f ?_ ?_; focus (first | omega | assumption | (simp [inr_m1, h1]; done) | (simp [inr_m1, h1]; omega) | (clear hr; (try clear hkn); simp_all; done))) | (exfalso; clear hr; (try clear hkn); simp_all; done)))), ⟨_, _, sck_self I⟩, rfl, rfl, rfl, rfl⟩)
