def snO (f : Nat → Int32) : Nat → Int32
  | 0 => 0
  | k + 1 => snO f k ||| ((1 : Int32) <<< (f (3 * k) &&& 31))
def mxN (f : Nat → Int32) : Nat → Nat
  | 0 => 0
  | k + 1 => max (mxN f k) (tn (f (3 * k + 1)))
theorem mxN_le {f : Nat → Int32} {sn : Nat} (h : ∀ k, k < sn → ∃ x, x ≤ 12 ∧ f (3 * k + 1) = nI x) : ∀ i, i ≤ sn → mxN f i ≤ 12
  | 0, _ => by show 0 ≤ 12; decide
  | i + 1, hi => by
    obtain ⟨x, hx, e⟩ := h i (by omega)
    have h1 := mxN_le h i (by omega)
    show max (mxN f i) (tn (f (3 * i + 1))) ≤ 12
    rw [e, tn_nI (by omega)]; omega
theorem mxN_ge {f : Nat → Int32} : ∀ i k, k < i → tn (f (3 * k + 1)) ≤ mxN f i
  | 0, k, h => absurd h (Nat.not_lt_zero k)
  | i + 1, k, h => by
    show _ ≤ max (mxN f i) (tn (f (3 * i + 1)))
    by_cases e : k = i
    · subst e; exact Nat.le_max_right _ _
    · exact Nat.le_trans (mxN_ge i k (by omega)) (Nat.le_max_left _ _)
theorem mxN_s {f : Nat → Int32} {i x : Nat} (h1 : mxN f i ≤ 12) (hx : x ≤ 12) (e : f (3 * i + 1) = nI x) : (if nI (mxN f i) < f (3 * i + 1) then f (3 * i + 1) else nI (mxN f i)) = nI (mxN f (i + 1)) := by
  show _ = nI (max (mxN f i) (tn (f (3 * i + 1))))
  rw [e, tn_nI (by omega)]
  by_cases q : mxN f i < x
  · rw [if_pos ((nI_ltI (by omega) (by omega)).mpr q), Nat.max_eq_right (by omega)]
  · rw [if_neg (fun z => q ((nI_ltI (by omega) (by omega)).mp z)), Nat.max_eq_left (by omega)]
theorem chrN_1 {go : Int32} {ga kd vv gl rw : Nat → Int32} {pp : Nat} {ns : (Int32 → Int32) → Int32 → Int32} {fd : Int32} {less : Int32 → Int32} {z : ZH} {i : Nat} (h : 0 < i) : chr1 go ga kd vv gl rw pp ns fd less (chrN go ga kd vv gl rw pp ns fd less z (i - 1)) = chrN go ga kd vv gl rw pp ns fd less z i := by
  obtain ⟨j, rfl⟩ : ∃ j, i = j + 1 := ⟨i - 1, by omega⟩
  rfl
set_option maxRecDepth 100000 in
set_option maxHeartbeats 400000 in
theorem c_X8_seenOnes {g : Gl} {I : Ty} {L : TL} {na nt ni m : Nat} {nl : Nat → Nat}  (sn : Nat) (hsn : sn ≤ 5) (hse : I 2 0 = nI sn) : Ct g yX8_seenOnes cX8_seenOnes 3 (some .int) 1 0 0 [.ref (g.1 + 0)] I L (RT na nt ni) (NT nl) (NB + m) (Ps (some (.int (snO (I 3) sn))) (I) L (RT na nt ni) (NT nl) (NB + m)) := by
  refine ct_of (by decide +kernel) (Nat.le_of_ble_eq_true rfl) (fun F hnm hr => ?_)
  clear hnm
  show V g F cX8_seenOnes RX8 3 1 0 [(0, .ref (g.1 + 0))] [] I L (RT na nt ni) (NT nl) (NB + m) 0 0
  refine v_iconst (v := 0) dX8_seenOnes_0 (by decide) ?_
  refine v_istore_n (lv2 := [(1, .int 0), (0, .ref (g.1 + 0))]) dX8_seenOnes_1 rfl (by decide) rfl ?_
  refine v_iconst (v := 0) dX8_seenOnes_2 (by decide) ?_
  refine v_istore_n (lv2 := [(2, .int 0), (1, .int 0), (0, .ref (g.1 + 0))]) dX8_seenOnes_3 rfl (by decide) rfl ?_
  refine v_lv (lv2 := [(2, .int (nI 0)), (1, .int (snO (I 3) 0)), (0, .ref (g.1 + 0))]) (by rfl) ?_
  refine dloop (P := fun i => V g F cX8_seenOnes RX8 3 1 4 [(2, .int (nI i)), (1, .int (snO (I 3) i)), (0, .ref (g.1 + 0))] [] I L (RT na nt ni) (NT nl) (NB + m) 0 0) sn ?_ ?_ 0 (Nat.zero_le _)
  · refine v_iload_n dX8_seenOnes_4 rfl 0 rfl ?_
    refine v_aload_n dX8_seenOnes_5 rfl 2 rfl ?_
    refine v_get (v := .ref (g.1 + 1)) fa_X8_12 dX8_seenOnes_6 rfl (by decide) (ltn rfl) rfl ?_
    refine v_get (v := .ref (g.1 + 2)) fa_X8_185 dX8_seenOnes_9 rfl (by decide) (ltn rfl) rfl ?_
    refine v_get (v := .int (I 2 0)) fa_X8_233 dX8_seenOnes_12 rfl (by decide) (ltn rfl) rfl ?_
    refine v_is hse ?_
    refine v_icmp_geN (a := sn) (b := sn) (tgt := 40) dX8_seenOnes_15 (by decide) rfl rfl (by omega) (by omega) (fun h1 => ?_) (fun h => by exfalso; omega)
    refine v_iload_n dX8_seenOnes_40 rfl 1 rfl ?_
    exact v_iret hr dX8_seenOnes_41 (psi rfl rfl)
  · intro i hi ih
    refine v_iload_n dX8_seenOnes_4 rfl 0 rfl ?_
    refine v_aload_n dX8_seenOnes_5 rfl 2 rfl ?_
    refine v_get (v := .ref (g.1 + 1)) fa_X8_12 dX8_seenOnes_6 rfl (by decide) (ltn rfl) rfl ?_
    refine v_get (v := .ref (g.1 + 2)) fa_X8_185 dX8_seenOnes_9 rfl (by decide) (ltn rfl) rfl ?_
    refine v_get (v := .int (I 2 0)) fa_X8_233 dX8_seenOnes_12 rfl (by decide) (ltn rfl) rfl ?_
    refine v_is hse ?_
    refine v_icmp_geN (a := i) (b := sn) (tgt := 40) dX8_seenOnes_15 (by decide) rfl rfl (by omega) (by omega) (fun h => by exfalso; omega) (fun h2 => ?_)
    refine v_iload_n dX8_seenOnes_18 rfl 1 rfl ?_
    refine v_iconst (v := 1) dX8_seenOnes_19 (by decide) ?_
    refine v_aload_n dX8_seenOnes_20 rfl 2 rfl ?_
    refine v_get (v := .ref (g.1 + 1)) fa_X8_12 dX8_seenOnes_21 rfl (by decide) (ltn rfl) rfl ?_
    refine v_get (v := .ref (g.1 + 2)) fa_X8_185 dX8_seenOnes_24 rfl (by decide) (ltn rfl) rfl ?_
    refine v_iload_n dX8_seenOnes_27 rfl 0 rfl ?_
    refine v_callVi (As := [.int (nI i)]) (rest := [.int 1, .int (snO (I 3) i)]) lk_X8_235 (c_first_2 i (by omega)) dX8_seenOnes_28 rfl (ltn rfl) rfl rfl (Nat.le_of_ble_eq_true rfl) (by decide) ?_
    refine v_ishl dX8_seenOnes_31 ?_
    refine v_ior dX8_seenOnes_32 ?_
    refine v_istore_n (lv2 := [(1, .int ((snO (I 3) i) ||| (1 <<< (I 3 (3 * i) &&& 31)))), (2, .int (nI i)), (0, .ref (g.1 + 0))]) dX8_seenOnes_33 rfl (by decide) rfl ?_
    refine v_inc (v := nI (i + 1)) (lv2 := [(2, .int (nI (i + 1))), (1, .int ((snO (I 3) i) ||| (1 <<< (I 3 (3 * i) &&& 31)))), (0, .ref (g.1 + 0))]) dX8_seenOnes_34 1 rfl (nx_inc rfl) (by decide) rfl ?_
    refine v_goto (tgt := 4) dX8_seenOnes_37 (by decide) ?_
    refine v_lv (lv2 := [(2, .int (nI (i + 1))), (1, .int (snO (I 3) (i + 1))), (0, .ref (g.1 + 0))]) (by rfl) ?_
    exact ih
set_option maxRecDepth 100000 in
set_option maxHeartbeats 1000000 in
theorem c_X8_seenHoldsAt {g : Gl} {I : Ty} {L : TL} {na nt ni m : Nat} {nl : Nat → Nat} (hz : Nat) (pp : Nat) (hpp : pp ≤ 6) (hpe : I 23 1 = nI pp) (sn : Nat) (hsn : sn ≤ 5) (hse : I 2 0 = nI sn) (hsw : ∀ k, k < sn → ∃ x, x < pp ∧ I 3 (3 * k) = nI x) (hst : ∀ k, k < sn → ∃ x, x ≤ 12 ∧ I 3 (3 * k + 1) = nI x) : Ct g yX8_seenHoldsAt cX8_seenHoldsAt 4 (some .boolean) 2 0 0 [.ref (g.1 + 0), .int (nI hz)] I L (RT na nt ni) (NT nl) (NB + m) (Ps (some (.int (bq (∀ k, k < sn → I 3 (3 * k + 1) = nI hz → I 37 (tn (I 3 (3 * k))) = I 3 (3 * k + 2))))) (I) L (RT na nt ni) (NT nl) (NB + m)) := by
  refine ct_of (by decide +kernel) (Nat.le_of_ble_eq_true rfl) (fun F hnm hr => ?_)
  clear hnm
  show V g F cX8_seenHoldsAt RX8 4 2 0 [(0, .ref (g.1 + 0)), (1, .int (nI hz))] [] I L (RT na nt ni) (NT nl) (NB + m) 0 0
  refine v_iconst (v := 0) dX8_seenHoldsAt_0 (by decide) ?_
  refine v_istore_n (lv2 := [(2, .int 0), (0, .ref (g.1 + 0)), (1, .int (nI hz))]) dX8_seenHoldsAt_1 rfl (by decide) rfl ?_
  refine v_lv (lv2 := [(2, .int (nI 0)), (0, .ref (g.1 + 0)), (1, .int (nI hz))]) (by rfl) ?_
  refine dloop (P := fun i => (∀ j, j < i → ¬ (fun k => I 3 (3 * k + 1) = nI hz ∧ ¬ I 37 (tn (I 3 (3 * k))) = I 3 (3 * k + 2)) j) → V g F cX8_seenHoldsAt RX8 4 2 2 [(2, .int (nI i)), (0, .ref (g.1 + 0)), (1, .int (nI hz))] [] I L (RT na nt ni) (NT nl) (NB + m) 0 0) sn ?_ ?_ 0 (Nat.zero_le _) (fun j h => absurd h (Nat.not_lt_zero j))
  · intro hinv
    refine v_iload_n dX8_seenHoldsAt_2 rfl 0 rfl ?_
    refine v_aload_n dX8_seenHoldsAt_3 rfl 1 rfl ?_
    refine v_get (v := .ref (g.1 + 1)) fa_X8_12 dX8_seenHoldsAt_4 rfl (by decide) (ltn rfl) rfl ?_
    refine v_get (v := .ref (g.1 + 2)) fa_X8_185 dX8_seenHoldsAt_7 rfl (by decide) (ltn rfl) rfl ?_
    refine v_get (v := .int (I 2 0)) fa_X8_233 dX8_seenHoldsAt_10 rfl (by decide) (ltn rfl) rfl ?_
    refine v_is hse ?_
    refine v_icmp_geN (a := sn) (b := sn) (tgt := 82) dX8_seenHoldsAt_13 (by decide) rfl rfl (by omega) (by omega) (fun h1 => ?_) (fun h => by exfalso; omega)
    refine v_iconst (v := 1) dX8_seenHoldsAt_82 (by decide) ?_
    exact v_zret hr dX8_seenHoldsAt_83 (by first | rfl | exact nbq) (psi (bq_t (fun k hk e => Classical.byContradiction fun q => hinv k hk ⟨e, q⟩)).symm rfl)
  · intro i hi ih
    intro hinv
    obtain ⟨bw, hbw1, hbw2⟩ := hsw i hi
    have htb : tn (I 3 (3 * i)) = bw := by rw [hbw2, tn_nI (by omega)]
    have hib : inr (nI bw) pp := (inr_of_nI (by omega)).mpr hbw1
    refine v_iload_n dX8_seenHoldsAt_2 rfl 0 rfl ?_
    refine v_aload_n dX8_seenHoldsAt_3 rfl 1 rfl ?_
    refine v_get (v := .ref (g.1 + 1)) fa_X8_12 dX8_seenHoldsAt_4 rfl (by decide) (ltn rfl) rfl ?_
    refine v_get (v := .ref (g.1 + 2)) fa_X8_185 dX8_seenHoldsAt_7 rfl (by decide) (ltn rfl) rfl ?_
    refine v_get (v := .int (I 2 0)) fa_X8_233 dX8_seenHoldsAt_10 rfl (by decide) (ltn rfl) rfl ?_
    refine v_is hse ?_
    refine v_icmp_geN (a := i) (b := sn) (tgt := 82) dX8_seenHoldsAt_13 (by decide) rfl rfl (by omega) (by omega) (fun h => by exfalso; omega) (fun h2 => ?_)
    refine v_aload_n dX8_seenHoldsAt_16 rfl 1 rfl ?_
    refine v_get (v := .ref (g.1 + 1)) fa_X8_12 dX8_seenHoldsAt_17 rfl (by decide) (ltn rfl) rfl ?_
    refine v_get (v := .ref (g.1 + 2)) fa_X8_185 dX8_seenHoldsAt_20 rfl (by decide) (ltn rfl) rfl ?_
    refine v_iload_n dX8_seenHoldsAt_23 rfl 0 rfl ?_
    refine v_callVi (As := [.int (nI i)]) (rest := []) lk_X8_235 (c_first_2 i (by omega)) dX8_seenHoldsAt_24 rfl (ltn rfl) rfl rfl (Nat.le_of_ble_eq_true rfl) (by decide) ?_
    refine v_is hbw2 ?_
    refine v_istore_n (lv2 := [(3, .int (nI bw)), (2, .int (nI i)), (0, .ref (g.1 + 0)), (1, .int (nI hz))]) dX8_seenHoldsAt_27 rfl (by decide) rfl ?_
    refine v_aload_n dX8_seenHoldsAt_28 rfl 2 rfl ?_
    refine v_get (v := .ref (g.1 + 1)) fa_X8_12 dX8_seenHoldsAt_29 rfl (by decide) (ltn rfl) rfl ?_
    refine v_get (v := .ref (g.1 + 2)) fa_X8_185 dX8_seenHoldsAt_32 rfl (by decide) (ltn rfl) rfl ?_
    refine v_iload_n dX8_seenHoldsAt_35 rfl 1 rfl ?_
    refine v_callVi (As := [.int (nI i)]) (rest := []) lk_X8_238 (c_second_2 i (by omega)) dX8_seenHoldsAt_36 rfl (ltn rfl) rfl rfl (Nat.le_of_ble_eq_true rfl) (by decide) ?_
    refine v_iload_n dX8_seenHoldsAt_39 rfl 3 rfl ?_
    refine v_icmp_ne (tgt := 76) dX8_seenHoldsAt_40 (by decide) (fun h4 => ?_) (fun h4 => ?_)
    · have hnp : ¬ (fun k => I 3 (3 * k + 1) = nI hz ∧ ¬ I 37 (tn (I 3 (3 * k))) = I 3 (3 * k + 2)) i := fun q => h4 q.1
      refine v_inc (v := nI (i + 1)) (lv2 := [(2, .int (nI (i + 1))), (3, .int (nI bw)), (0, .ref (g.1 + 0)), (1, .int (nI hz))]) dX8_seenHoldsAt_76 1 rfl (nx_inc rfl) (by decide) rfl ?_
      refine v_goto (tgt := 2) dX8_seenHoldsAt_79 (by decide) ?_
      refine v_sub (lv2 := [(2, .int (nI (i + 1))), (0, .ref (g.1 + 0)), (1, .int (nI hz))]) [0, 2, 3] rfl ?_
      exact ih (lt_s hinv hnp)
    · refine v_aload_n dX8_seenHoldsAt_43 rfl 2 rfl ?_
      refine v_iload_n dX8_seenHoldsAt_44 rfl 0 rfl ?_
      refine v_callVi (As := [.int (nI bw)]) (rest := []) lk_X8_74 (c_X8_isTraveller (nI bw) pp hpp hpe) dX8_seenHoldsAt_45 rfl (ltn rfl) rfl rfl (Nat.le_of_ble_eq_true rfl) (by decide) ?_
      refine v_ifb_eq (tgt := 76) dX8_seenHoldsAt_48 (by decide) (fun h5 => ?_) (fun h5 => ?_)
      · exact absurd hib h5
      · refine v_aload_n dX8_seenHoldsAt_51 rfl 2 rfl ?_
        refine v_get (v := .ref (g.1 + 33)) fa_X8_55 dX8_seenHoldsAt_52 rfl (by decide) (ltn rfl) rfl ?_
        refine v_get (v := .ref (g.1 + 37)) fa_X8_84 dX8_seenHoldsAt_55 rfl (by decide) (ltn rfl) rfl ?_
        refine v_iload_n dX8_seenHoldsAt_58 rfl 0 rfl ?_
        refine v_iaload (len := 6) (j := bw) dX8_seenHoldsAt_59 rfl (ltn rfl) rfl (by decide) rfl (by omega) ?_
        refine v_aload_n dX8_seenHoldsAt_60 rfl 2 rfl ?_
        refine v_get (v := .ref (g.1 + 1)) fa_X8_12 dX8_seenHoldsAt_61 rfl (by decide) (ltn rfl) rfl ?_
        refine v_get (v := .ref (g.1 + 2)) fa_X8_185 dX8_seenHoldsAt_64 rfl (by decide) (ltn rfl) rfl ?_
        refine v_iload_n dX8_seenHoldsAt_67 rfl 1 rfl ?_
        refine v_callVi (As := [.int (nI i)]) (rest := [.int (I 37 bw)]) lk_X8_328 (c_third_2 i (by omega)) dX8_seenHoldsAt_68 rfl (ltn rfl) rfl rfl (Nat.le_of_ble_eq_true rfl) (by decide) ?_
        refine v_icmp_eq (tgt := 76) dX8_seenHoldsAt_71 (by decide) (fun h7 => ?_) (fun h7 => ?_)
        · have hnp : ¬ (fun k => I 3 (3 * k + 1) = nI hz ∧ ¬ I 37 (tn (I 3 (3 * k))) = I 3 (3 * k + 2)) i := fun q => q.2 (by rw [htb]; exact h7)
          refine v_inc (v := nI (i + 1)) (lv2 := [(2, .int (nI (i + 1))), (3, .int (nI bw)), (0, .ref (g.1 + 0)), (1, .int (nI hz))]) dX8_seenHoldsAt_76 1 rfl (nx_inc rfl) (by decide) rfl ?_
          refine v_goto (tgt := 2) dX8_seenHoldsAt_79 (by decide) ?_
          refine v_sub (lv2 := [(2, .int (nI (i + 1))), (0, .ref (g.1 + 0)), (1, .int (nI hz))]) [0, 2, 3] rfl ?_
          exact ih (lt_s hinv hnp)
        · refine v_iconst (v := 0) dX8_seenHoldsAt_74 (by decide) ?_
          exact v_zret hr dX8_seenHoldsAt_75 (by first | rfl | exact nbq) (psi (bq_f (fun q => h7 (by have q2 := q i hi h4; rw [htb] at q2; exact q2))).symm rfl)
set_option maxRecDepth 100000 in
set_option maxHeartbeats 4000000 in
theorem c_X8_seenHolds {g : Gl} {I : Ty} {L : TL} {na nt ni m : Nat} {nl : Nat → Nat}  (pp : Nat) (hpp : pp ≤ 6) (hpe : I 23 1 = nI pp) (hpe33 : I 33 1 = nI pp) (hxm : 2 * nt ≤ m) (hsl : sln nl nt ≤ 100) (hok : okSt (I (scell nt)) (sln nl nt)) (hS : okS (mgC33 I)) (hch : ChOK (I 39)) (hG : okG (I 38)) (sn : Nat) (hsn : sn ≤ 5) (hse : I 2 0 = nI sn) (hsw : ∀ k, k < sn → ∃ x, x < pp ∧ I 3 (3 * k) = nI x) (hst : ∀ k, k < sn → ∃ x, x ≤ 12 ∧ I 3 (3 * k + 1) = nI x) : Ct g yX8_seenHolds cX8_seenHolds 3 (some .boolean) 5 0 0 [.ref (g.1 + 0)] I L (RT na nt ni) (NT nl) (NB + m) (fun v_ I_ L_ R_ N_ n_ => v_ = some (.int (bq (∀ k, k < sn → (chrN (I 33 11) (I 34) (I 35) (I 36) (I 38) (I 41) pp (nsW I nl nt) (I (ncell nt) 0) (lessC 1000000) (mgH33 I) (tn (I 3 (3 * k + 1)))).1.1 (tn (I 3 (3 * k))) = I 3 (3 * k + 2)))) ∧ (∃ z f, I_ = va_up (mpH33 I z) 42 f) ∧ L_ = L ∧ R_ = RT na nt ni ∧ N_ = NT nl ∧ n_ = NB + m) := by
  refine ct_of (by decide +kernel) (Nat.le_of_ble_eq_true rfl) (fun F hnm hr => ?_)
  clear hnm
  show V g F cX8_seenHolds RX8 3 5 0 [(0, .ref (g.1 + 0))] [] I L (RT na nt ni) (NT nl) (NB + m) 0 0
  refine v_iconst (v := 0) dX8_seenHolds_0 (by decide) ?_
  refine v_istore_n (lv2 := [(1, .int 0), (0, .ref (g.1 + 0))]) dX8_seenHolds_1 rfl (by decide) rfl ?_
  refine v_iconst (v := 0) dX8_seenHolds_2 (by decide) ?_
  refine v_istore_n (lv2 := [(2, .int 0), (1, .int 0), (0, .ref (g.1 + 0))]) dX8_seenHolds_3 rfl (by decide) rfl ?_
  refine v_lv (lv2 := [(2, .int (nI 0)), (1, .int (nI (mxN (I 3) 0))), (0, .ref (g.1 + 0))]) (by rfl) ?_
  refine dloop (P := fun i => V g F cX8_seenHolds RX8 3 5 4 [(2, .int (nI i)), (1, .int (nI (mxN (I 3) i))), (0, .ref (g.1 + 0))] [] I L (RT na nt ni) (NT nl) (NB + m) 0 0) sn ?_ ?_ 0 (Nat.zero_le _)
  · refine v_iload_n dX8_seenHolds_4 rfl 0 rfl ?_
    refine v_aload_n dX8_seenHolds_5 rfl 2 rfl ?_
    refine v_get (v := .ref (g.1 + 1)) fa_X8_12 dX8_seenHolds_6 rfl (by decide) (ltn rfl) rfl ?_
    refine v_get (v := .ref (g.1 + 2)) fa_X8_185 dX8_seenHolds_9 rfl (by decide) (ltn rfl) rfl ?_
    refine v_get (v := .int (I 2 0)) fa_X8_233 dX8_seenHolds_12 rfl (by decide) (ltn rfl) rfl ?_
    refine v_is hse ?_
    refine v_icmp_geN (a := sn) (b := sn) (tgt := 40) dX8_seenHolds_15 (by decide) rfl rfl (by omega) (by omega) (fun h1 => ?_) (fun h => by exfalso; omega)
    refine v_iconst (v := 0) dX8_seenHolds_40 (by decide) ?_
    refine v_istore_n (lv2 := [(2, .int 0), (1, .int (nI (mxN (I 3) sn))), (0, .ref (g.1 + 0))]) dX8_seenHolds_41 rfl (by decide) rfl ?_
    have hml := mxN_le (f := I 3) hst sn (Nat.le_refl _)
    refine v_lv (lv2 := [(2, .int (nI 0)), (1, .int (nI (mxN (I 3) sn))), (0, .ref (g.1 + 0))]) (by rfl) ?_
    refine v_I (I2 := (va_up (mpH33 I (chrN (I 33 11) (I 34) (I 35) (I 36) (I 38) (I 41) pp (nsW I nl nt) (I (ncell nt) 0) (lessC 1000000) (mgH33 I) (0 - 1))) 42 (I 42))) (by exact St33_0 I) ?_
    refine dloop (P := fun i => ∀ (fq : Nat → Int32), (∀ h, h < i → ∀ k, k < sn → I 3 (3 * k + 1) = nI h → (chrN (I 33 11) (I 34) (I 35) (I 36) (I 38) (I 41) pp (nsW I nl nt) (I (ncell nt) 0) (lessC 1000000) (mgH33 I) h).1.1 (tn (I 3 (3 * k))) = I 3 (3 * k + 2)) → V g F cX8_seenHolds RX8 3 5 42 [(2, .int (nI i)), (1, .int (nI (mxN (I 3) sn))), (0, .ref (g.1 + 0))] [] (va_up (mpH33 I (chrN (I 33 11) (I 34) (I 35) (I 36) (I 38) (I 41) pp (nsW I nl nt) (I (ncell nt) 0) (lessC 1000000) (mgH33 I) (i - 1))) 42 fq) L (RT na nt ni) (NT nl) (NB + m) 0 0) (mxN (I 3) sn + 1) ?_ ?_ 0 (Nat.zero_le _) (I 42) (fun h q => absurd q (Nat.not_lt_zero h))
    · intro fq
      intro hinv
      refine v_iload_n dX8_seenHolds_42 rfl 0 rfl ?_
      refine v_iload_n dX8_seenHolds_43 rfl 1 rfl ?_
      refine v_icmp_gtN (a := (mxN (I 3) sn + 1)) (b := (mxN (I 3) sn)) (tgt := 83) dX8_seenHolds_44 (by decide) rfl rfl (by omega) (by omega) (fun h2 => ?_) (fun h => by exfalso; omega)
      refine v_iconst (v := 1) dX8_seenHolds_83 (by decide) ?_
      exact v_zret hr dX8_seenHolds_84 (by first | rfl | exact nbq) (⟨congrArg (fun z => some (Value.int z)) (bq_t (fun k hk => by obtain ⟨bx, hbx, hbe⟩ := hst k hk; have hge := mxN_ge (f := I 3) sn k hk; exact hinv (tn (I 3 (3 * k + 1))) (by omega) k hk (by rw [hbe, tn_nI (by omega)]))).symm, ⟨_, _, rfl⟩, rfl, rfl, rfl, rfl⟩)
    · intro i hi ih
      intro fq
      intro hinv
      have hTi := chrN_ok (go := I 33 11) (ga := I 34) (kd := I 35) (vv := I 36) (gl := I 38) (rw := I 41) (pp := pp) (ns := nsW I nl nt) (fd := (I (ncell nt) 0)) (less := lessC 1000000) (z := mgH33 I) hpp ⟨hS, hch⟩ hG (i - 1)
      refine v_iload_n dX8_seenHolds_42 rfl 0 rfl ?_
      refine v_iload_n dX8_seenHolds_43 rfl 1 rfl ?_
      refine v_icmp_gtN (a := i) (b := (mxN (I 3) sn)) (tgt := 83) dX8_seenHolds_44 (by decide) rfl rfl (by omega) (by omega) (fun h => by exfalso; omega) (fun h3 => ?_)
      refine v_iload_n dX8_seenHolds_47 rfl 0 rfl ?_
      refine v_bipush (v := 12) dX8_seenHolds_48 (by decide) ?_
      refine v_icmp_gtN (a := i) (b := 12) (tgt := 83) dX8_seenHolds_50 (by decide) rfl rfl (by omega) (by omega) (fun h => by exfalso; omega) (fun h4 => ?_)
      refine v_iload_n dX8_seenHolds_53 rfl 0 rfl ?_
      refine v_if_leN (a := i) (tgt := 67) dX8_seenHolds_54 (by decide) rfl (by omega) (fun h6 => ?_) (fun h6 => ?_)
      · have hi0 : i - 1 = i := by omega
        refine v_I (I2 := (va_up (mpH33 I (chrN (I 33 11) (I 34) (I 35) (I 36) (I 38) (I 41) pp (nsW I nl nt) (I (ncell nt) 0) (lessC 1000000) (mgH33 I) i)) 42 fq)) (by rw [hi0]) ?_
        refine v_aload_n dX8_seenHolds_67 rfl 2 rfl ?_
        refine v_iload_n dX8_seenHolds_68 rfl 0 rfl ?_
        refine v_callVi (As := [.int (nI i)]) (rest := []) lk_X8_325 (c_X8_seenHoldsAt (I := (va_up (mpH33 I (chrN (I 33 11) (I 34) (I 35) (I 36) (I 38) (I 41) pp (nsW I nl nt) (I (ncell nt) 0) (lessC 1000000) (mgH33 I) i)) 42 fq)) i pp hpp hpe sn hsn hse hsw hst) dX8_seenHolds_69 rfl (ltn rfl) rfl rfl (Nat.le_of_ble_eq_true rfl) (by decide) ?_
        refine v_is (y := (bq (∀ k, k < sn → I 3 (3 * k + 1) = nI i → (chrN (I 33 11) (I 34) (I 35) (I 36) (I 38) (I 41) pp (nsW I nl nt) (I (ncell nt) 0) (lessC 1000000) (mgH33 I) i).1.1 (tn (I 3 (3 * k))) = I 3 (3 * k + 2)))) rfl ?_
        refine v_ifb_ne (tgt := 77) dX8_seenHolds_72 (by decide) (fun h7 => ?_) (fun h7 => ?_)
        · refine v_inc (v := nI (i + 1)) (lv2 := [(2, .int (nI (i + 1))), (1, .int (nI (mxN (I 3) sn))), (0, .ref (g.1 + 0))]) dX8_seenHolds_77 0 rfl (nx_inc rfl) (by decide) rfl ?_
          refine v_goto (tgt := 42) dX8_seenHolds_80 (by decide) ?_
          refine v_I (I2 := (va_up (mpH33 I (chrN (I 33 11) (I 34) (I 35) (I 36) (I 38) (I 41) pp (nsW I nl nt) (I (ncell nt) 0) (lessC 1000000) (mgH33 I) (i + 1 - 1))) 42 fq)) (by rfl) ?_
          exact ih _ (lt_s hinv h7)
        · refine v_iconst (v := 0) dX8_seenHolds_75 (by decide) ?_
          exact v_zret hr dX8_seenHolds_76 (by first | rfl | exact nbq) (⟨congrArg (fun z => some (Value.int z)) (bq_f (fun q => h7 (fun k hk e => by have q2 := q k hk; rw [e, tn_nI (by omega)] at q2; exact q2))).symm, ⟨_, _, rfl⟩, rfl, rfl, rfl, rfl⟩)
      · have hpos : 0 < i := h6
        refine v_aload_n dX8_seenHolds_57 rfl 2 rfl ?_
        refine v_get (v := .ref (g.1 + 33)) fa_X8_55 dX8_seenHolds_58 rfl (by decide) (ltn rfl) rfl ?_
        refine v_iconst (v := 1) dX8_seenHolds_61 (by decide) ?_
        refine v_ldc dX8_seenHolds_62 uc_X8_176 ?_
        refine v_callVfv (As := [.int 1, .int 1000000]) (rest := []) lk_X8_168 (c_goHours_33 (I := (va_up (mpH33 I (chrN (I 33 11) (I 34) (I 35) (I 36) (I 38) (I 41) pp (nsW I nl nt) (I (ncell nt) 0) (lessC 1000000) (mgH33 I) (i - 1))) 42 fq)) 1 1000000 pp hpp hpe33 (by decide) hxm hsl (by rw [St33_s]; exact hok) hTi.1 hTi.2 hG) dX8_seenHolds_64 rfl (ltn rfl) rfl rfl (Nat.le_of_ble_eq_true rfl) (by decide) (fun fq8 => ?_)
        refine v_I (I2 := (va_up (mpH33 I (chr1 (I 33 11) (I 34) (I 35) (I 36) (I 38) (I 41) pp (nsW I nl nt) (I (ncell nt) 0) (lessC 1000000) (chrN (I 33 11) (I 34) (I 35) (I 36) (I 38) (I 41) pp (nsW I nl nt) (I (ncell nt) 0) (lessC 1000000) (mgH33 I) (i - 1)))) 42 fq8)) (by rw [St33_H, nsW_off St33_s, St33_n]; rfl) ?_
        refine v_I (I2 := (va_up (mpH33 I (chrN (I 33 11) (I 34) (I 35) (I 36) (I 38) (I 41) pp (nsW I nl nt) (I (ncell nt) 0) (lessC 1000000) (mgH33 I) i)) 42 fq8)) (by rw [chrN_1 hpos]) ?_
        refine v_aload_n dX8_seenHolds_67 rfl 2 rfl ?_
        refine v_iload_n dX8_seenHolds_68 rfl 0 rfl ?_
        refine v_callVi (As := [.int (nI i)]) (rest := []) lk_X8_325 (c_X8_seenHoldsAt (I := (va_up (mpH33 I (chrN (I 33 11) (I 34) (I 35) (I 36) (I 38) (I 41) pp (nsW I nl nt) (I (ncell nt) 0) (lessC 1000000) (mgH33 I) i)) 42 fq8)) i pp hpp hpe sn hsn hse hsw hst) dX8_seenHolds_69 rfl (ltn rfl) rfl rfl (Nat.le_of_ble_eq_true rfl) (by decide) ?_
        refine v_is (y := (bq (∀ k, k < sn → I 3 (3 * k + 1) = nI i → (chrN (I 33 11) (I 34) (I 35) (I 36) (I 38) (I 41) pp (nsW I nl nt) (I (ncell nt) 0) (lessC 1000000) (mgH33 I) i).1.1 (tn (I 3 (3 * k))) = I 3 (3 * k + 2)))) rfl ?_
        refine v_ifb_ne (tgt := 77) dX8_seenHolds_72 (by decide) (fun h9 => ?_) (fun h9 => ?_)
        · refine v_inc (v := nI (i + 1)) (lv2 := [(2, .int (nI (i + 1))), (1, .int (nI (mxN (I 3) sn))), (0, .ref (g.1 + 0))]) dX8_seenHolds_77 0 rfl (nx_inc rfl) (by decide) rfl ?_
          refine v_goto (tgt := 42) dX8_seenHolds_80 (by decide) ?_
          refine v_I (I2 := (va_up (mpH33 I (chrN (I 33 11) (I 34) (I 35) (I 36) (I 38) (I 41) pp (nsW I nl nt) (I (ncell nt) 0) (lessC 1000000) (mgH33 I) (i + 1 - 1))) 42 fq8)) (by rfl) ?_
          exact ih _ (lt_s hinv h9)
        · refine v_iconst (v := 0) dX8_seenHolds_75 (by decide) ?_
          exact v_zret hr dX8_seenHolds_76 (by first | rfl | exact nbq) (⟨congrArg (fun z => some (Value.int z)) (bq_f (fun q => h9 (fun k hk e => by have q2 := q k hk; rw [e, tn_nI (by omega)] at q2; exact q2))).symm, ⟨_, _, rfl⟩, rfl, rfl, rfl, rfl⟩)
  · intro i hi ih
    have hml := mxN_le (f := I 3) hst i (by omega)
    refine v_iload_n dX8_seenHolds_4 rfl 0 rfl ?_
    refine v_aload_n dX8_seenHolds_5 rfl 2 rfl ?_
    refine v_get (v := .ref (g.1 + 1)) fa_X8_12 dX8_seenHolds_6 rfl (by decide) (ltn rfl) rfl ?_
    refine v_get (v := .ref (g.1 + 2)) fa_X8_185 dX8_seenHolds_9 rfl (by decide) (ltn rfl) rfl ?_
    refine v_get (v := .int (I 2 0)) fa_X8_233 dX8_seenHolds_12 rfl (by decide) (ltn rfl) rfl ?_
    refine v_is hse ?_
    refine v_icmp_geN (a := i) (b := sn) (tgt := 40) dX8_seenHolds_15 (by decide) rfl rfl (by omega) (by omega) (fun h => by exfalso; omega) (fun h10 => ?_)
    refine v_iload_n dX8_seenHolds_18 rfl 1 rfl ?_
    refine v_aload_n dX8_seenHolds_19 rfl 2 rfl ?_
    refine v_get (v := .ref (g.1 + 1)) fa_X8_12 dX8_seenHolds_20 rfl (by decide) (ltn rfl) rfl ?_
    refine v_get (v := .ref (g.1 + 2)) fa_X8_185 dX8_seenHolds_23 rfl (by decide) (ltn rfl) rfl ?_
    refine v_iload_n dX8_seenHolds_26 rfl 0 rfl ?_
    refine v_callVi (As := [.int (nI i)]) (rest := [.int (nI (mxN (I 3) i))]) lk_X8_238 (c_second_2 i (by omega)) dX8_seenHolds_27 rfl (ltn rfl) rfl rfl (Nat.le_of_ble_eq_true rfl) (by decide) ?_
    refine v_mmax lk_X8_320 dX8_seenHolds_30 (by decide) (Nat.le_of_ble_eq_true rfl) ?_
    obtain ⟨bx, hbx, hbe⟩ := hst i hi
    refine v_is (mxN_s hml hbx hbe) ?_
    refine v_istore_n (lv2 := [(1, .int (nI (mxN (I 3) (i + 1)))), (2, .int (nI i)), (0, .ref (g.1 + 0))]) dX8_seenHolds_33 rfl (by decide) rfl ?_
    refine v_inc (v := nI (i + 1)) (lv2 := [(2, .int (nI (i + 1))), (1, .int (nI (mxN (I 3) (i + 1)))), (0, .ref (g.1 + 0))]) dX8_seenHolds_34 1 rfl (nx_inc rfl) (by decide) rfl ?_
    refine v_goto (tgt := 4) dX8_seenHolds_37 (by decide) ?_
    exact ih
