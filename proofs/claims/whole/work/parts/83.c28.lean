section
variable (P : Nat → Prop)
noncomputable def bsC : Nat → Int32
  | 0 => 0
  | c + 1 => ifc (P c) (bsC c ||| ((1 : Int32) <<< (nI c &&& 31))) (bsC c)
end
theorem bsC_16 (P : Nat → Prop) : ∀ c, c ≤ 16 → inr (bsC P c) 65536
  | 0, _ => by show inr 0 65536; exact ⟨by decide, by decide⟩
  | c + 1, hc => by
    have h := bsC_16 P c (by omega)
    show inr (ifc (P c) _ _) 65536
    by_cases q : P c
    · rw [ifc_t q]; exact ch_or h (by omega)
    · rw [ifc_f q]; exact h
theorem bsC_hb (P : Nat → Prop) : ∀ n, n ≤ 16 → ∀ c, c < 16 → (hb (bsC P n) c ↔ c < n ∧ P c)
  | 0, _, c, hc => ⟨fun h => absurd h (hb_0 (by omega)), fun h => absurd h.1 (Nat.not_lt_zero c)⟩
  | n + 1, hn, c, hc => by
    have ih := bsC_hb P n (by omega) c hc
    show hb (ifc (P n) _ _) c ↔ _
    by_cases q : P n
    · rw [ifc_t q, hb_or (by omega), hb_one (by omega) (by omega), ih]
      constructor
      · rintro (h | h)
        · exact ⟨by omega, h.2⟩
        · subst h; exact ⟨by omega, q⟩
      · intro h
        by_cases e : c = n
        · exact Or.inr e
        · exact Or.inl ⟨by omega, h.2⟩
    · rw [ifc_f q, ih]
      constructor
      · intro h; exact ⟨by omega, h.2⟩
      · intro h
        by_cases e : c = n
        · subst e; exact absurd h.2 q
        · exact ⟨by omega, h.2⟩
set_option maxRecDepth 100000 in
set_option maxHeartbeats 4000000 in
theorem c_X8_fromOf {g : Gl} {I : Ty} {L : TL} {na nt ni m : Nat} {nl : Nat → Nat} (pz : Nat) (pp : Nat) (hpp : pp ≤ 6) (hpe : I 23 1 = nI pp) (hpz : pz < 6) (hxm : 2 * na ≤ m) (hsl : sln nl na ≤ 100) (hok : okSt (I (scell na)) (sln nl na)) (hS : okS (mgC23 I)) (hch : ChOK (I 29)) (hG : okG (I 28)) (sn : Nat) (hsn : sn ≤ 5) (hse : I 2 0 = nI sn) (hsw : ∀ k, k < sn → ∃ x, x < pp ∧ I 3 (3 * k) = nI x) (hst : ∀ k, k < sn → ∃ x, x ≤ 12 ∧ I 3 (3 * k + 1) = nI x) : Ct g yX8_fromOf cX8_fromOf 5 (some .int) 7 0 0 [.ref (g.1 + 0), .int (nI pz)] I L (RT na nt ni) (NT nl) (NB + m) (PZ na ni m nl (some (.int (bsC (fun c => (∀ k, k < sn → (chT I nl na pp (I 24) (I 26) (va_up (I 27) pz (nI c)) (snO (I 3) sn) (tn (I 3 (3 * k + 1)))).1.1 (tn (I 3 (3 * k))) = I 3 (3 * k + 2))) 16))) (I) L) := by
  refine ct_of (by decide +kernel) (Nat.le_of_ble_eq_true rfl) (fun F hnm hr => ?_)
  clear hnm
  show V g F cX8_fromOf RX8 5 7 0 [(0, .ref (g.1 + 0)), (1, .int (nI pz))] [] I L (RT na nt ni) (NT nl) (NB + m) 0 0
  refine v_aload_n dX8_fromOf_0 rfl 0 rfl ?_
  refine v_callVi (As := []) (rest := []) lk_X8_314 (c_X8_seenOnes (I := I) sn hsn hse) dX8_fromOf_1 rfl (ltn rfl) rfl rfl (Nat.le_of_ble_eq_true rfl) (by decide) ?_
  refine v_istore_n (lv2 := [(2, .int (snO (I 3) sn)), (0, .ref (g.1 + 0)), (1, .int (nI pz))]) dX8_fromOf_4 rfl (by decide) rfl ?_
  refine v_iconst (v := 0) dX8_fromOf_5 (by decide) ?_
  refine v_istore_n (lv2 := [(3, .int 0), (2, .int (snO (I 3) sn)), (0, .ref (g.1 + 0)), (1, .int (nI pz))]) dX8_fromOf_6 rfl (by decide) rfl ?_
  refine v_iconst (v := 0) dX8_fromOf_7 (by decide) ?_
  refine v_istore (lv2 := [(4, .int 0), (3, .int 0), (2, .int (snO (I 3) sn)), (0, .ref (g.1 + 0)), (1, .int (nI pz))]) dX8_fromOf_8 (by decide) rfl ?_
  refine v_lv (lv2 := [(4, .int (nI 0)), (3, .int (bsC (fun c => (∀ k, k < sn → (chT I nl na pp (I 24) (I 26) (va_up (I 27) pz (nI c)) (snO (I 3) sn) (tn (I 3 (3 * k + 1)))).1.1 (tn (I 3 (3 * k))) = I 3 (3 * k + 2))) 0)), (2, .int (snO (I 3) sn)), (0, .ref (g.1 + 0)), (1, .int (nI pz))]) (by rfl) ?_
  refine dloop (P := fun i => ∀ (Iq : Ty) (nq : Nat), (offS Iq I) → V g F cX8_fromOf RX8 5 7 10 [(4, .int (nI i)), (3, .int (bsC (fun c => (∀ k, k < sn → (chT I nl na pp (I 24) (I 26) (va_up (I 27) pz (nI c)) (snO (I 3) sn) (tn (I 3 (3 * k + 1)))).1.1 (tn (I 3 (3 * k))) = I 3 (3 * k + 2))) i)), (2, .int (snO (I 3) sn)), (0, .ref (g.1 + 0)), (1, .int (nI pz))] [] Iq L (RT na nq ni) (NT nl) (NB + m) 0 0) 16 ?_ ?_ 0 (Nat.zero_le _) I nt (offS_0 I)
  · intro Iq nq
    intro hinv
    refine v_iload dX8_fromOf_10 0 rfl ?_
    refine v_bipush (v := 16) dX8_fromOf_12 (by decide) ?_
    refine v_icmp_geN (a := 16) (b := 16) (tgt := 60) dX8_fromOf_14 (by decide) rfl rfl (by omega) (by omega) (fun h1 => ?_) (fun h => by exfalso; omega)
    refine v_iload_n dX8_fromOf_60 rfl 1 rfl ?_
    exact v_iret hr dX8_fromOf_61 (⟨congrArg (fun z => some (Value.int z)) (by rfl), ⟨_, scC_off hinv⟩, rfl, ⟨_, rfl⟩, rfl, rfl⟩)
  · intro i hi ih
    intro Iq nq
    intro hinv
    refine v_iload dX8_fromOf_10 0 rfl ?_
    refine v_bipush (v := 16) dX8_fromOf_12 (by decide) ?_
    refine v_icmp_geN (a := i) (b := 16) (tgt := 60) dX8_fromOf_14 (by decide) rfl rfl (by omega) (by omega) (fun h => by exfalso; omega) (fun h2 => ?_)
    refine v_aload_n dX8_fromOf_17 rfl 3 rfl ?_
    refine v_get (v := .ref (g.1 + 33)) fa_X8_55 dX8_fromOf_18 rfl (by decide) (ltn rfl) rfl ?_
    refine v_aload_n dX8_fromOf_21 rfl 3 rfl ?_
    refine v_get (v := .ref (g.1 + 23)) fa_X8_51 dX8_fromOf_22 rfl (by decide) (ltn rfl) rfl ?_
    refine v_iload_n dX8_fromOf_25 rfl 2 rfl ?_
    refine v_callVv (As := [.ref (g.1 + 23), .int (snO (I 3) sn)]) (rest := []) lk_X8_172 (c_X2_tryFor (I := Iq) (snO (I 3) sn) pp hpp ((congrFun (hinv 23 (by decide)) 1).trans hpe)) dX8_fromOf_26 rfl (ltn rfl) rfl rfl (Nat.le_of_ble_eq_true rfl) (by decide) ?_
    have ht3 : triS (tryI Iq (snO (I 3) sn) pp) I (snO (I 3) sn) pp (I 24) (I 26) (I 27) := triS_0 hinv
    refine v_aload_n dX8_fromOf_29 rfl 3 rfl ?_
    refine v_get (v := .ref (g.1 + 33)) fa_X8_55 dX8_fromOf_30 rfl (by decide) (ltn rfl) rfl ?_
    refine v_get (v := .ref (g.1 + 37)) fa_X8_84 dX8_fromOf_33 rfl (by decide) (ltn rfl) rfl ?_
    refine v_iload_n dX8_fromOf_36 rfl 4 rfl ?_
    refine v_iload dX8_fromOf_37 0 rfl ?_
    refine v_iastore (len := 6) (j := pz) dX8_fromOf_39 rfl (ltn rfl) rfl (by decide) rfl (by omega) ?_
    have htg := triS_p (c := pz) (v := nI i) ht3
    refine v_aload_n dX8_fromOf_40 rfl 3 rfl ?_
    refine v_callV (As := []) (rest := []) lk_X8_317 (c_X8_seenHolds (I := (wr (tryI Iq (snO (I 3) sn) pp) 37 pz (nI i))) pp hpp ((congrFun (htg.1 23 (by decide)) 1).trans hpe) (htg.2.2.1.trans hpe) hxm hsl (by rw [offS_s htg.1]; exact hok) (by have q := htg.2.2.2.2.2.2.2.1; intro p hp; by_cases e9 : p = pz; (subst e9; exact ⟨i, hi, by show _ = nI i; exact (congrFun q p).trans (up_at _ _ _)⟩); obtain ⟨c, hc, e⟩ := hS p hp; exact ⟨c, hc, (congrFun q p).trans ((up_off _ _ e9).trans e)⟩) (by rw [htg.2.2.2.2.2.2.2.2.2.1]; exact hch) (by rw [htg.2.2.2.2.2.2.2.2.1]; exact hG) sn hsn ((congrFun (htg.1 2 (by decide)) 0).trans hse) (by rw [htg.1 3 (by decide)]; exact hsw) (by rw [htg.1 3 (by decide)]; exact hst)) dX8_fromOf_41 rfl (ltn rfl) rfl rfl (Nat.le_of_ble_eq_true rfl) (by decide) (Nat.zero_le _) (Nat.zero_le _) (fun v I4 L_ R_ N_ n_ q5 => ?_)
    obtain ⟨rfl, ⟨zq, fq, rfl⟩, rfl, rfl, rfl, rfl⟩ := q5
    refine v_st (st2 := [.int (bq (∀ k, k < sn → (chT I nl na pp (I 24) (I 26) (va_up (I 27) pz (nI i)) (snO (I 3) sn) (tn (I 3 (3 * k + 1)))).1.1 (tn (I 3 (3 * k))) = I 3 (3 * k + 2)))]) (by show [Value.int _] = _; have q3 := htg.1 3 (by decide); simp only [triS_c htg]; simp only [q3]) ?_
    refine v_ifb_eq (tgt := 54) dX8_fromOf_44 (by decide) (fun h6 => ?_) (fun h6 => ?_)
    · refine v_inc (v := nI (i + 1)) (lv2 := [(4, .int (nI (i + 1))), (3, .int (bsC (fun c => (∀ k, k < sn → (chT I nl na pp (I 24) (I 26) (va_up (I 27) pz (nI c)) (snO (I 3) sn) (tn (I 3 (3 * k + 1)))).1.1 (tn (I 3 (3 * k))) = I 3 (3 * k + 2))) i)), (2, .int (snO (I 3) sn)), (0, .ref (g.1 + 0)), (1, .int (nI pz))]) dX8_fromOf_54 0 rfl (nx_inc rfl) (by decide) rfl ?_
      refine v_goto (tgt := 10) dX8_fromOf_57 (by decide) ?_
      refine v_lv (lv2 := [(4, .int (nI (i + 1))), (3, .int (bsC (fun c => (∀ k, k < sn → (chT I nl na pp (I 24) (I 26) (va_up (I 27) pz (nI c)) (snO (I 3) sn) (tn (I 3 (3 * k + 1)))).1.1 (tn (I 3 (3 * k))) = I 3 (3 * k + 2))) (i + 1))), (2, .int (snO (I 3) sn)), (0, .ref (g.1 + 0)), (1, .int (nI pz))]) (by rw [bsC, ifc_f h6]) ?_
      exact ih _ _ ((offS_up (offS_H htg.1) (by decide) (by decide)))
    · refine v_iload_n dX8_fromOf_47 rfl 1 rfl ?_
      refine v_iconst (v := 1) dX8_fromOf_48 (by decide) ?_
      refine v_iload dX8_fromOf_49 0 rfl ?_
      refine v_ishl dX8_fromOf_51 ?_
      refine v_ior dX8_fromOf_52 ?_
      refine v_istore_n (lv2 := [(3, .int ((bsC (fun c => (∀ k, k < sn → (chT I nl na pp (I 24) (I 26) (va_up (I 27) pz (nI c)) (snO (I 3) sn) (tn (I 3 (3 * k + 1)))).1.1 (tn (I 3 (3 * k))) = I 3 (3 * k + 2))) i) ||| (1 <<< (nI i &&& 31)))), (4, .int (nI i)), (2, .int (snO (I 3) sn)), (0, .ref (g.1 + 0)), (1, .int (nI pz))]) dX8_fromOf_53 rfl (by decide) rfl ?_
      refine v_inc (v := nI (i + 1)) (lv2 := [(4, .int (nI (i + 1))), (3, .int ((bsC (fun c => (∀ k, k < sn → (chT I nl na pp (I 24) (I 26) (va_up (I 27) pz (nI c)) (snO (I 3) sn) (tn (I 3 (3 * k + 1)))).1.1 (tn (I 3 (3 * k))) = I 3 (3 * k + 2))) i) ||| (1 <<< (nI i &&& 31)))), (2, .int (snO (I 3) sn)), (0, .ref (g.1 + 0)), (1, .int (nI pz))]) dX8_fromOf_54 1 rfl (nx_inc rfl) (by decide) rfl ?_
      refine v_goto (tgt := 10) dX8_fromOf_57 (by decide) ?_
      refine v_lv (lv2 := [(4, .int (nI (i + 1))), (3, .int (bsC (fun c => (∀ k, k < sn → (chT I nl na pp (I 24) (I 26) (va_up (I 27) pz (nI c)) (snO (I 3) sn) (tn (I 3 (3 * k + 1)))).1.1 (tn (I 3 (3 * k))) = I 3 (3 * k + 2))) (i + 1))), (2, .int (snO (I 3) sn)), (0, .ref (g.1 + 0)), (1, .int (nI pz))]) (by rw [bsC, ifc_t h6]) ?_
      exact ih _ _ ((offS_up (offS_H htg.1) (by decide) (by decide)))
set_option maxRecDepth 100000 in
set_option maxHeartbeats 4000000 in
theorem c_X8_valuesOf {g : Gl} {I : Ty} {L : TL} {na nt ni m : Nat} {nl : Nat → Nat} (pz : Nat) (pp : Nat) (hpp : pp ≤ 6) (hpe : I 23 1 = nI pp) (hpz : pz < 6) (hxm : 2 * na ≤ m) (hsl : sln nl na ≤ 100) (hok : okSt (I (scell na)) (sln nl na)) (hS : okS (mgC23 I)) (hch : ChOK (I 29)) (hG : okG (I 28)) (sn : Nat) (hsn : sn ≤ 5) (hse : I 2 0 = nI sn) (hsw : ∀ k, k < sn → ∃ x, x < pp ∧ I 3 (3 * k) = nI x) (hst : ∀ k, k < sn → ∃ x, x ≤ 12 ∧ I 3 (3 * k + 1) = nI x) : Ct g yX8_valuesOf cX8_valuesOf 5 (some .int) 7 0 0 [.ref (g.1 + 0), .int (nI pz)] I L (RT na nt ni) (NT nl) (NB + m) (PZ na ni m nl (some (.int (bsC (fun v => (∀ k, k < sn → (chT I nl na pp (I 24) (va_up (I 26) pz (nI v)) (I 27) (snO (I 3) sn) (tn (I 3 (3 * k + 1)))).1.1 (tn (I 3 (3 * k))) = I 3 (3 * k + 2))) 10))) (I) L) := by
  refine ct_of (by decide +kernel) (Nat.le_of_ble_eq_true rfl) (fun F hnm hr => ?_)
  clear hnm
  show V g F cX8_valuesOf RX8 5 7 0 [(0, .ref (g.1 + 0)), (1, .int (nI pz))] [] I L (RT na nt ni) (NT nl) (NB + m) 0 0
  refine v_aload_n dX8_valuesOf_0 rfl 0 rfl ?_
  refine v_callVi (As := []) (rest := []) lk_X8_314 (c_X8_seenOnes (I := I) sn hsn hse) dX8_valuesOf_1 rfl (ltn rfl) rfl rfl (Nat.le_of_ble_eq_true rfl) (by decide) ?_
  refine v_istore_n (lv2 := [(2, .int (snO (I 3) sn)), (0, .ref (g.1 + 0)), (1, .int (nI pz))]) dX8_valuesOf_4 rfl (by decide) rfl ?_
  refine v_iconst (v := 0) dX8_valuesOf_5 (by decide) ?_
  refine v_istore_n (lv2 := [(3, .int 0), (2, .int (snO (I 3) sn)), (0, .ref (g.1 + 0)), (1, .int (nI pz))]) dX8_valuesOf_6 rfl (by decide) rfl ?_
  refine v_iconst (v := 0) dX8_valuesOf_7 (by decide) ?_
  refine v_istore (lv2 := [(4, .int 0), (3, .int 0), (2, .int (snO (I 3) sn)), (0, .ref (g.1 + 0)), (1, .int (nI pz))]) dX8_valuesOf_8 (by decide) rfl ?_
  refine v_lv (lv2 := [(4, .int (nI 0)), (3, .int (bsC (fun v => (∀ k, k < sn → (chT I nl na pp (I 24) (va_up (I 26) pz (nI v)) (I 27) (snO (I 3) sn) (tn (I 3 (3 * k + 1)))).1.1 (tn (I 3 (3 * k))) = I 3 (3 * k + 2))) 0)), (2, .int (snO (I 3) sn)), (0, .ref (g.1 + 0)), (1, .int (nI pz))]) (by rfl) ?_
  refine dloop (P := fun i => ∀ (Iq : Ty) (nq : Nat), (offS Iq I) → V g F cX8_valuesOf RX8 5 7 10 [(4, .int (nI i)), (3, .int (bsC (fun v => (∀ k, k < sn → (chT I nl na pp (I 24) (va_up (I 26) pz (nI v)) (I 27) (snO (I 3) sn) (tn (I 3 (3 * k + 1)))).1.1 (tn (I 3 (3 * k))) = I 3 (3 * k + 2))) i)), (2, .int (snO (I 3) sn)), (0, .ref (g.1 + 0)), (1, .int (nI pz))] [] Iq L (RT na nq ni) (NT nl) (NB + m) 0 0) 10 ?_ ?_ 0 (Nat.zero_le _) I nt (offS_0 I)
  · intro Iq nq
    intro hinv
    refine v_iload dX8_valuesOf_10 0 rfl ?_
    refine v_bipush (v := 10) dX8_valuesOf_12 (by decide) ?_
    refine v_icmp_geN (a := 10) (b := 10) (tgt := 60) dX8_valuesOf_14 (by decide) rfl rfl (by omega) (by omega) (fun h1 => ?_) (fun h => by exfalso; omega)
    refine v_iload_n dX8_valuesOf_60 rfl 1 rfl ?_
    exact v_iret hr dX8_valuesOf_61 (⟨congrArg (fun z => some (Value.int z)) (by rfl), ⟨_, scC_off hinv⟩, rfl, ⟨_, rfl⟩, rfl, rfl⟩)
  · intro i hi ih
    intro Iq nq
    intro hinv
    refine v_iload dX8_valuesOf_10 0 rfl ?_
    refine v_bipush (v := 10) dX8_valuesOf_12 (by decide) ?_
    refine v_icmp_geN (a := i) (b := 10) (tgt := 60) dX8_valuesOf_14 (by decide) rfl rfl (by omega) (by omega) (fun h => by exfalso; omega) (fun h2 => ?_)
    refine v_aload_n dX8_valuesOf_17 rfl 3 rfl ?_
    refine v_get (v := .ref (g.1 + 33)) fa_X8_55 dX8_valuesOf_18 rfl (by decide) (ltn rfl) rfl ?_
    refine v_aload_n dX8_valuesOf_21 rfl 3 rfl ?_
    refine v_get (v := .ref (g.1 + 23)) fa_X8_51 dX8_valuesOf_22 rfl (by decide) (ltn rfl) rfl ?_
    refine v_iload_n dX8_valuesOf_25 rfl 2 rfl ?_
    refine v_callVv (As := [.ref (g.1 + 23), .int (snO (I 3) sn)]) (rest := []) lk_X8_172 (c_X2_tryFor (I := Iq) (snO (I 3) sn) pp hpp ((congrFun (hinv 23 (by decide)) 1).trans hpe)) dX8_valuesOf_26 rfl (ltn rfl) rfl rfl (Nat.le_of_ble_eq_true rfl) (by decide) ?_
    have ht3 : triS (tryI Iq (snO (I 3) sn) pp) I (snO (I 3) sn) pp (I 24) (I 26) (I 27) := triS_0 hinv
    refine v_aload_n dX8_valuesOf_29 rfl 3 rfl ?_
    refine v_get (v := .ref (g.1 + 33)) fa_X8_55 dX8_valuesOf_30 rfl (by decide) (ltn rfl) rfl ?_
    refine v_get (v := .ref (g.1 + 36)) fa_X8_81 dX8_valuesOf_33 rfl (by decide) (ltn rfl) rfl ?_
    refine v_iload_n dX8_valuesOf_36 rfl 4 rfl ?_
    refine v_iload dX8_valuesOf_37 0 rfl ?_
    refine v_iastore (len := 6) (j := pz) dX8_valuesOf_39 rfl (ltn rfl) rfl (by decide) rfl (by omega) ?_
    have htg := triS_v (c := pz) (v := nI i) ht3
    refine v_aload_n dX8_valuesOf_40 rfl 3 rfl ?_
    refine v_callV (As := []) (rest := []) lk_X8_317 (c_X8_seenHolds (I := (wr (tryI Iq (snO (I 3) sn) pp) 36 pz (nI i))) pp hpp ((congrFun (htg.1 23 (by decide)) 1).trans hpe) (htg.2.2.1.trans hpe) hxm hsl (by rw [offS_s htg.1]; exact hok) (by have q := htg.2.2.2.2.2.2.2.1; intro p hp; obtain ⟨c, hc, e⟩ := hS p hp; exact ⟨c, hc, (congrFun q p).trans e⟩) (by rw [htg.2.2.2.2.2.2.2.2.2.1]; exact hch) (by rw [htg.2.2.2.2.2.2.2.2.1]; exact hG) sn hsn ((congrFun (htg.1 2 (by decide)) 0).trans hse) (by rw [htg.1 3 (by decide)]; exact hsw) (by rw [htg.1 3 (by decide)]; exact hst)) dX8_valuesOf_41 rfl (ltn rfl) rfl rfl (Nat.le_of_ble_eq_true rfl) (by decide) (Nat.zero_le _) (Nat.zero_le _) (fun v I4 L_ R_ N_ n_ q5 => ?_)
    obtain ⟨rfl, ⟨zq, fq, rfl⟩, rfl, rfl, rfl, rfl⟩ := q5
    refine v_st (st2 := [.int (bq (∀ k, k < sn → (chT I nl na pp (I 24) (va_up (I 26) pz (nI i)) (I 27) (snO (I 3) sn) (tn (I 3 (3 * k + 1)))).1.1 (tn (I 3 (3 * k))) = I 3 (3 * k + 2)))]) (by show [Value.int _] = _; have q3 := htg.1 3 (by decide); simp only [triS_c htg]; simp only [q3]) ?_
    refine v_ifb_eq (tgt := 54) dX8_valuesOf_44 (by decide) (fun h6 => ?_) (fun h6 => ?_)
    · refine v_inc (v := nI (i + 1)) (lv2 := [(4, .int (nI (i + 1))), (3, .int (bsC (fun v => (∀ k, k < sn → (chT I nl na pp (I 24) (va_up (I 26) pz (nI v)) (I 27) (snO (I 3) sn) (tn (I 3 (3 * k + 1)))).1.1 (tn (I 3 (3 * k))) = I 3 (3 * k + 2))) i)), (2, .int (snO (I 3) sn)), (0, .ref (g.1 + 0)), (1, .int (nI pz))]) dX8_valuesOf_54 0 rfl (nx_inc rfl) (by decide) rfl ?_
      refine v_goto (tgt := 10) dX8_valuesOf_57 (by decide) ?_
      refine v_lv (lv2 := [(4, .int (nI (i + 1))), (3, .int (bsC (fun v => (∀ k, k < sn → (chT I nl na pp (I 24) (va_up (I 26) pz (nI v)) (I 27) (snO (I 3) sn) (tn (I 3 (3 * k + 1)))).1.1 (tn (I 3 (3 * k))) = I 3 (3 * k + 2))) (i + 1))), (2, .int (snO (I 3) sn)), (0, .ref (g.1 + 0)), (1, .int (nI pz))]) (by rw [bsC, ifc_f h6]) ?_
      exact ih _ _ ((offS_up (offS_H htg.1) (by decide) (by decide)))
    · refine v_iload_n dX8_valuesOf_47 rfl 1 rfl ?_
      refine v_iconst (v := 1) dX8_valuesOf_48 (by decide) ?_
      refine v_iload dX8_valuesOf_49 0 rfl ?_
      refine v_ishl dX8_valuesOf_51 ?_
      refine v_ior dX8_valuesOf_52 ?_
      refine v_istore_n (lv2 := [(3, .int ((bsC (fun v => (∀ k, k < sn → (chT I nl na pp (I 24) (va_up (I 26) pz (nI v)) (I 27) (snO (I 3) sn) (tn (I 3 (3 * k + 1)))).1.1 (tn (I 3 (3 * k))) = I 3 (3 * k + 2))) i) ||| (1 <<< (nI i &&& 31)))), (4, .int (nI i)), (2, .int (snO (I 3) sn)), (0, .ref (g.1 + 0)), (1, .int (nI pz))]) dX8_valuesOf_53 rfl (by decide) rfl ?_
      refine v_inc (v := nI (i + 1)) (lv2 := [(4, .int (nI (i + 1))), (3, .int ((bsC (fun v => (∀ k, k < sn → (chT I nl na pp (I 24) (va_up (I 26) pz (nI v)) (I 27) (snO (I 3) sn) (tn (I 3 (3 * k + 1)))).1.1 (tn (I 3 (3 * k))) = I 3 (3 * k + 2))) i) ||| (1 <<< (nI i &&& 31)))), (2, .int (snO (I 3) sn)), (0, .ref (g.1 + 0)), (1, .int (nI pz))]) dX8_valuesOf_54 1 rfl (nx_inc rfl) (by decide) rfl ?_
      refine v_goto (tgt := 10) dX8_valuesOf_57 (by decide) ?_
      refine v_lv (lv2 := [(4, .int (nI (i + 1))), (3, .int (bsC (fun v => (∀ k, k < sn → (chT I nl na pp (I 24) (va_up (I 26) pz (nI v)) (I 27) (snO (I 3) sn) (tn (I 3 (3 * k + 1)))).1.1 (tn (I 3 (3 * k))) = I 3 (3 * k + 2))) (i + 1))), (2, .int (snO (I 3) sn)), (0, .ref (g.1 + 0)), (1, .int (nI pz))]) (by rw [bsC, ifc_t h6]) ?_
      exact ih _ _ ((offS_up (offS_H htg.1) (by decide) (by decide)))
