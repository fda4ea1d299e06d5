set_option maxRecDepth 100000 in
set_option maxHeartbeats 400000 in
theorem c_X9_divisor {g : Gl} {I : Ty} {L : TL} {na nt ni m : Nat} {nl : Nat → Nat} (az : Nat) (bz : Nat) (haz : az < 1000) (hbz : bz < 1000) : Ct g yX9_divisor cX9_divisor 6 (some .int) 0 0 0 [.ref (g.1 + 65), .int (nI az), .int (nI bz)] I L (RT na nt ni) (NT nl) (NB + m) (Ps (some (.int (nI (Nat.gcd az bz)))) (I) L (RT na nt ni) (NT nl) (NB + m)) := by
  refine ct_of (by decide +kernel) (Nat.le_of_ble_eq_true rfl) (fun F hnm hr => ?_)
  clear hnm
  show V g F cX9_divisor RX9 6 0 0 [(0, .ref (g.1 + 65)), (1, .int (nI az)), (2, .int (nI bz))] [] I L (RT na nt ni) (NT nl) (NB + m) 0 0
  have key : ∀ M u v : Nat, v < M → u < 1000 → v < 1000 → Nat.gcd u v = Nat.gcd az bz → V g F cX9_divisor RX9 6 0 5 [(4, .int (nI v)), (3, .int (nI u)), (0, .ref (g.1 + 65)), (1, .int (nI az)), (2, .int (nI bz))] [] I L (RT na nt ni) (NT nl) (NB + m) 0 0 := by
    intro M
    induction M with
    | zero => intro u v h; exact absurd h (Nat.not_lt_zero _)
    | succ M ihM =>
      intro u v hM hu hv hgc
      refine v_iload dX9_divisor_5 0 rfl ?_
      refine v_if_eqN (a := v) (tgt := 26) dX9_divisor_7 (by decide) rfl (by omega) (fun h1 => ?_) (fun h1 => ?_)
      · -- v eq 0
        refine v_iload_n dX9_divisor_26 rfl 1 rfl ?_
        exact v_iret hr dX9_divisor_27 (psi (by rw [← hgc, h1, Nat.gcd_zero_right]) rfl)
      · -- v ne 0
        refine v_iload_n dX9_divisor_10 rfl 1 rfl ?_
        refine v_iload dX9_divisor_11 0 rfl ?_
        refine v_irem dX9_divisor_13 (nI_ne0 (by omega) (by omega)) ?_
        refine v_is (nx_rem rfl (d := v) (by omega) (by omega) (by omega)) ?_
        refine v_istore (lv2 := [(5, .int (nI (u % v))), (4, .int (nI v)), (3, .int (nI u)), (0, .ref (g.1 + 65)), (1, .int (nI az)), (2, .int (nI bz))]) dX9_divisor_14 (by decide) rfl ?_
        refine v_iload dX9_divisor_16 1 rfl ?_
        refine v_istore_n (lv2 := [(3, .int (nI v)), (5, .int (nI (u % v))), (4, .int (nI v)), (0, .ref (g.1 + 65)), (1, .int (nI az)), (2, .int (nI bz))]) dX9_divisor_18 rfl (by decide) rfl ?_
        refine v_iload dX9_divisor_19 1 rfl ?_
        refine v_istore (lv2 := [(4, .int (nI (u % v))), (3, .int (nI v)), (5, .int (nI (u % v))), (0, .ref (g.1 + 65)), (1, .int (nI az)), (2, .int (nI bz))]) dX9_divisor_21 (by decide) rfl ?_
        refine v_goto (tgt := 5) dX9_divisor_23 (by decide) ?_
        refine v_sub (lv2 := [(4, .int (nI (u % v))), (3, .int (nI v)), (0, .ref (g.1 + 65)), (1, .int (nI az)), (2, .int (nI bz))]) [0, 1, 3, 4, 5] rfl ?_
        exact ihM v (u % v) (by have := Nat.mod_lt u (show 0 < v by omega); omega) hv (by have := Nat.mod_lt u (show 0 < v by omega); omega) (by rw [← hgc, Nat.gcd_comm u v, Nat.gcd_rec v u, Nat.gcd_comm])
  refine v_iload_n dX9_divisor_0 rfl 1 rfl ?_
  refine v_istore_n (lv2 := [(3, .int (nI az)), (0, .ref (g.1 + 65)), (1, .int (nI az)), (2, .int (nI bz))]) dX9_divisor_1 rfl (by decide) rfl ?_
  refine v_iload_n dX9_divisor_2 rfl 3 rfl ?_
  refine v_istore (lv2 := [(4, .int (nI bz)), (3, .int (nI az)), (0, .ref (g.1 + 65)), (1, .int (nI az)), (2, .int (nI bz))]) dX9_divisor_3 (by decide) rfl ?_
  exact key _ az bz (Nat.lt_succ_self _) haz hbz rfl
set_option maxRecDepth 100000 in
set_option maxHeartbeats 400000 in
theorem c_X9_lowest {g : Gl} {I : Ty} {L : TL} {na nt ni m : Nat} {nl : Nat → Nat} (az : Nat) (bz : Nat) (pt : Int32) (haz : az < 1000) (hbz : bz < 1000) (hb0 : 0 < bz) : Ct g yX9_lowest cX9_lowest 5 (some .long) 1 0 0 [.ref (g.1 + 65), .int (nI az), .int (nI bz), .int pt] I L (RT na nt ni) (NT nl) (NB + m) (Ps (some (.long (ifc (pt = 0) (nI (az / Nat.gcd az bz)).toInt64 (nI (bz / Nat.gcd az bz)).toInt64))) (I) L (RT na nt ni) (NT nl) (NB + m)) := by
  refine ct_of (by decide +kernel) (Nat.le_of_ble_eq_true rfl) (fun F hnm hr => ?_)
  clear hnm
  show V g F cX9_lowest RX9 5 1 0 [(0, .ref (g.1 + 65)), (1, .int (nI az)), (2, .int (nI bz)), (3, .int pt)] [] I L (RT na nt ni) (NT nl) (NB + m) 0 0
  have hg0 := Nat.gcd_pos_of_pos_right az hb0
  have hg1 := Nat.gcd_le_right az hb0
  refine v_aload_n dX9_lowest_0 rfl 0 rfl ?_
  refine v_iload_n dX9_lowest_1 rfl 1 rfl ?_
  refine v_iload_n dX9_lowest_2 rfl 2 rfl ?_
  refine v_callVi (As := [.int (nI az), .int (nI bz)]) (rest := []) lk_X9_398 (c_X9_divisor az bz (by omega) (by omega)) dX9_lowest_3 rfl (ltn rfl) rfl rfl (Nat.le_of_ble_eq_true rfl) (by decide) ?_
  refine v_istore (lv2 := [(4, .int (nI (Nat.gcd az bz))), (0, .ref (g.1 + 65)), (1, .int (nI az)), (2, .int (nI bz)), (3, .int pt)]) dX9_lowest_6 (by decide) rfl ?_
  refine v_iload_n dX9_lowest_8 rfl 4 rfl ?_
  refine v_if_ne (tgt := 20) dX9_lowest_9 (by decide) (fun h1 => ?_) (fun h1 => ?_)
  · -- pt ne 0
    refine v_iload_n dX9_lowest_20 rfl 3 rfl ?_
    refine v_iload dX9_lowest_21 0 rfl ?_
    refine v_idiv dX9_lowest_23 (nI_ne0 (by omega) (by omega)) ?_
    refine v_is (nx_div rfl (d := (Nat.gcd az bz)) (by omega) (by omega) (by omega)) ?_
    refine v_i2l dX9_lowest_24 ?_
    exact v_lret hr dX9_lowest_25 (psl (by first | rfl | (simp only [bq, ifc_T, ifc_F, inr_m1, and_true, true_and, and_false, false_and, or_true, true_or, or_false, false_or, not_true_eq_false, not_false_eq_true, and_self, or_self, h1]; done) | (simp [bq, ifc_T, ifc_F, inr_m1, h1]; done) | ((try simp only [bq]); repeat (first | rfl | (refine eq_t ?_ ?_; focus (first | omega | assumption | (simp [inr_m1, h1]; done) | (simp [inr_m1, h1]; omega) | (clear hr; (try clear hkn); simp_all; done))) | (refine eq_f ?_ ?_; focus (first | omega | assumption | (simp [inr_m1, h1]; done) | (simp [inr_m1, h1]; omega) | (clear hr; (try clear hkn); simp_all; done))) | (exfalso; clear hr; (try clear hkn); simp_all; done)))) rfl)
  · -- pt eq 0
    refine v_iload_n dX9_lowest_12 rfl 2 rfl ?_
    refine v_iload dX9_lowest_13 0 rfl ?_
    refine v_idiv dX9_lowest_15 (nI_ne0 (by omega) (by omega)) ?_
    refine v_is (nx_div rfl (d := (Nat.gcd az bz)) (by omega) (by omega) (by omega)) ?_
    refine v_i2l dX9_lowest_16 ?_
    refine v_goto (tgt := 25) dX9_lowest_17 (by decide) ?_
    exact v_lret hr dX9_lowest_25 (psl (by first | rfl | (simp only [bq, ifc_T, ifc_F, inr_m1, and_true, true_and, and_false, false_and, or_true, true_or, or_false, false_or, not_true_eq_false, not_false_eq_true, and_self, or_self, h1]; done) | (simp [bq, ifc_T, ifc_F, inr_m1, h1]; done) | ((try simp only [bq]); repeat (first | rfl | (refine eq_t ?_ ?_; focus (first | omega | assumption | (simp [inr_m1, h1]; done) | (simp [inr_m1, h1]; omega) | (clear hr; (try clear hkn); simp_all; done))) | (refine eq_f ?_ ?_; focus (first | omega | assumption | (simp [inr_m1, h1]; done) | (simp [inr_m1, h1]; omega) | (clear hr; (try clear hkn); simp_all; done))) | (exfalso; clear hr; (try clear hkn); simp_all; done)))) rfl)
noncomputable def mnF (ch : Nat → Int32) : Nat → Nat
  | 0 => 0
  | p + 1 => mnF ch p + bitc (ch p) 16
theorem mnF_le (ch : Nat → Int32) : ∀ p, mnF ch p ≤ 16 * p
  | 0 => Nat.le_refl _
  | p + 1 => by
    have h := mnF_le ch p
    have h2 := bitc_le (ch p) 16
    show mnF ch p + bitc (ch p) 16 ≤ 16 * (p + 1)
    omega
noncomputable def lowL (az bz : Nat) (pt : Int32) : Int64 := ifc (pt = 0) (nI (az / Nat.gcd az bz)).toInt64 (nI (bz / Nat.gcd az bz)).toInt64
set_option maxRecDepth 100000 in
set_option maxHeartbeats 400000 in
theorem c_X9_mean {g : Gl} {I : Ty} {L : TL} {na nt ni m : Nat} {nl : Nat → Nat} (pt : Int32) (pp : Nat) (hpp : pp ≤ 6) (hpe : I 65 0 = nI pp) : Ct g yX9_mean cX9_mean 4 (some .long) 3 0 0 [.ref (g.1 + 65), .int pt] I L (RT na nt ni) (NT nl) (NB + m) (Ps (some (.long (ifc (inr pt 2 ∧ pp ≠ 0) (lowL (mnF (I 71) pp) pp pt) (-9223372036854775808)))) (I) L (RT na nt ni) (NT nl) (NB + m)) := by
  refine ct_of (by decide +kernel) (Nat.le_of_ble_eq_true rfl) (fun F hnm hr => ?_)
  clear hnm
  show V g F cX9_mean RX9 4 3 0 [(0, .ref (g.1 + 65)), (1, .int pt)] [] I L (RT na nt ni) (NT nl) (NB + m) 0 0
  have hml := mnF_le (I 71) pp
  refine v_aload_n dX9_mean_0 rfl 0 rfl ?_
  refine v_iload_n dX9_mean_1 rfl 1 rfl ?_
  refine v_iconst (v := 0) dX9_mean_2 (by decide) ?_
  refine v_iconst (v := 1) dX9_mean_3 (by decide) ?_
  refine v_callVi (As := [.int pt, .int 0, .int 1]) (rest := []) lk_X9_237 (c_in0 pt 1 (by decide)) dX9_mean_4 rfl (ltn rfl) rfl rfl (Nat.le_of_ble_eq_true rfl) (by decide) ?_
  refine v_ifb_eq (tgt := 17) dX9_mean_7 (by decide) (fun h1 => ?_) (fun h1 => ?_)
  · -- not inr pt 2
    refine v_ldc2 dX9_mean_17 uc_X9_401 ?_
    exact v_lret hr dX9_mean_20 (psl (by first | rfl | (simp only [bq, ifc_T, ifc_F, inr_m1, and_true, true_and, and_false, false_and, or_true, true_or, or_false, false_or, not_true_eq_false, not_false_eq_true, and_self, or_self, h1, lowL]; done) | (simp [bq, ifc_T, ifc_F, inr_m1, h1, lowL]; done) | ((try simp only [bq, lowL]); repeat (first | rfl | (refine eq_t ?_ ?_; focus (first | omega | assumption | (simp [inr_m1, h1]; done) | (simp [inr_m1, h1]; omega) | (clear hr; (try clear hkn); simp_all; done))) | (refine eq_f ?_ ?_; focus (first | omega | assumption | (simp [inr_m1, h1]; done) | (simp [inr_m1, h1]; omega) | (clear hr; (try clear hkn); simp_all; done))) | (exfalso; clear hr; (try clear hkn); simp_all; done)))) rfl)
  · -- inr pt 2
    refine v_aload_n dX9_mean_10 rfl 0 rfl ?_
    refine v_get (v := .int (I 65 0)) fa_X9_7 dX9_mean_11 rfl (by decide) (ltn rfl) rfl ?_
    refine v_is hpe ?_
    refine v_if_neN (a := pp) (tgt := 21) dX9_mean_14 (by decide) rfl (by omega) (fun h2 => ?_) (fun h2 => ?_)
    · -- pp ne 0
      refine v_iconst (v := 0) dX9_mean_21 (by decide) ?_
      refine v_istore_n (lv2 := [(2, .int 0), (0, .ref (g.1 + 65)), (1, .int pt)]) dX9_mean_22 rfl (by decide) rfl ?_
      refine v_iconst (v := 0) dX9_mean_23 (by decide) ?_
      refine v_istore_n (lv2 := [(3, .int 0), (2, .int 0), (0, .ref (g.1 + 65)), (1, .int pt)]) dX9_mean_24 rfl (by decide) rfl ?_
      refine v_lv (lv2 := [(3, .int (nI 0)), (2, .int (nI (mnF (I 71) 0))), (0, .ref (g.1 + 65)), (1, .int pt)]) (by rfl) ?_
      refine dloop (P := fun i => V g F cX9_mean RX9 4 3 25 [(3, .int (nI i)), (2, .int (nI (mnF (I 71) i))), (0, .ref (g.1 + 65)), (1, .int pt)] [] I L (RT na nt ni) (NT nl) (NB + m) 0 0) pp ?_ ?_ 0 (Nat.zero_le _)
      · refine v_iload_n dX9_mean_25 rfl 0 rfl ?_
        refine v_aload_n dX9_mean_26 rfl 2 rfl ?_
        refine v_get (v := .int (I 65 0)) fa_X9_7 dX9_mean_27 rfl (by decide) (ltn rfl) rfl ?_
        refine v_is hpe ?_
        refine v_icmp_geN (a := pp) (b := pp) (tgt := 52) dX9_mean_30 (by decide) rfl rfl (by omega) (by omega) (fun h3 => ?_) (fun h => by exfalso; omega)
        refine v_aload_n dX9_mean_52 rfl 2 rfl ?_
        refine v_iload_n dX9_mean_53 rfl 1 rfl ?_
        refine v_aload_n dX9_mean_54 rfl 2 rfl ?_
        refine v_get (v := .int (I 65 0)) fa_X9_7 dX9_mean_55 rfl (by decide) (ltn rfl) rfl ?_
        refine v_is hpe ?_
        refine v_iload_n dX9_mean_58 rfl 3 rfl ?_
        refine v_callVl (As := [.int (nI (mnF (I 71) pp)), .int (nI pp), .int pt]) (rest := []) lk_X9_403 (c_X9_lowest (mnF (I 71) pp) pp pt (by omega) (by omega) (by omega)) dX9_mean_59 rfl (ltn rfl) rfl rfl (Nat.le_of_ble_eq_true rfl) (by decide) ?_
        exact v_lret hr dX9_mean_62 (psl (by first | rfl | (simp only [bq, ifc_T, ifc_F, inr_m1, and_true, true_and, and_false, false_and, or_true, true_or, or_false, false_or, not_true_eq_false, not_false_eq_true, and_self, or_self, h1, h2, h3, lowL]; done) | (simp [bq, ifc_T, ifc_F, inr_m1, h1, h2, h3, lowL]; done) | ((try simp only [bq, lowL]); repeat (first | rfl | (refine eq_t ?_ ?_; focus (first | omega | assumption | (simp [inr_m1, h1, h2, h3]; done) | (simp [inr_m1, h1, h2, h3]; omega) | (clear hr; (try clear hkn); simp_all; done))) | (refine eq_f ?_ ?_; focus (first | omega | assumption | (simp [inr_m1, h1, h2, h3]; done) | (simp [inr_m1, h1, h2, h3]; omega) | (clear hr; (try clear hkn); simp_all; done))) | (exfalso; clear hr; (try clear hkn); simp_all; done)))) rfl)
      · intro i hi ih
        have hmi := mnF_le (I 71) i
        have hbi := bitc_le (I 71 i) 16
        refine v_iload_n dX9_mean_25 rfl 0 rfl ?_
        refine v_aload_n dX9_mean_26 rfl 2 rfl ?_
        refine v_get (v := .int (I 65 0)) fa_X9_7 dX9_mean_27 rfl (by decide) (ltn rfl) rfl ?_
        refine v_is hpe ?_
        refine v_icmp_geN (a := i) (b := pp) (tgt := 52) dX9_mean_30 (by decide) rfl rfl (by omega) (by omega) (fun h => by exfalso; omega) (fun h4 => ?_)
        refine v_iload_n dX9_mean_33 rfl 1 rfl ?_
        refine v_aload_n dX9_mean_34 rfl 2 rfl ?_
        refine v_aload_n dX9_mean_35 rfl 2 rfl ?_
        refine v_get (v := .ref (g.1 + 71)) fa_X9_32 dX9_mean_36 rfl (by decide) (ltn rfl) rfl ?_
        refine v_iload_n dX9_mean_39 rfl 0 rfl ?_
        refine v_iaload (len := 6) (j := i) dX9_mean_40 rfl (ltn rfl) rfl (by decide) rfl (by omega) ?_
        refine v_callVi (As := [.int (I 71 i)]) (rest := [.int (nI (mnF (I 71) i))]) lk_X9_315 (c_X9_bits (I 71 i)) dX9_mean_41 rfl (ltn rfl) rfl rfl (Nat.le_of_ble_eq_true rfl) (by decide) ?_
        refine v_iadd dX9_mean_44 ?_
        refine v_is (nx_add rfl rfl) ?_
        refine v_istore_n (lv2 := [(2, .int (nI ((mnF (I 71) i) + (bitc (I 71 i) 16)))), (3, .int (nI i)), (0, .ref (g.1 + 65)), (1, .int pt)]) dX9_mean_45 rfl (by decide) rfl ?_
        refine v_inc (v := nI (i + 1)) (lv2 := [(3, .int (nI (i + 1))), (2, .int (nI ((mnF (I 71) i) + (bitc (I 71 i) 16)))), (0, .ref (g.1 + 65)), (1, .int pt)]) dX9_mean_46 1 rfl (nx_inc rfl) (by decide) rfl ?_
        refine v_goto (tgt := 25) dX9_mean_49 (by decide) ?_
        refine v_lv (lv2 := [(3, .int (nI (i + 1))), (2, .int (nI (mnF (I 71) (i + 1)))), (0, .ref (g.1 + 65)), (1, .int pt)]) (by rfl) ?_
        exact ih
    · -- pp eq 0
      refine v_ldc2 dX9_mean_17 uc_X9_401 ?_
      exact v_lret hr dX9_mean_20 (psl (by first | rfl | (simp only [bq, ifc_T, ifc_F, inr_m1, and_true, true_and, and_false, false_and, or_true, true_or, or_false, false_or, not_true_eq_false, not_false_eq_true, and_self, or_self, h1, h2, lowL]; done) | (simp [bq, ifc_T, ifc_F, inr_m1, h1, h2, lowL]; done) | ((try simp only [bq, lowL]); repeat (first | rfl | (refine eq_t ?_ ?_; focus (first | omega | assumption | (simp [inr_m1, h1, h2]; done) | (simp [inr_m1, h1, h2]; omega) | (clear hr; (try clear hkn); simp_all; done))) | (refine eq_f ?_ ?_; focus (first | omega | assumption | (simp [inr_m1, h1, h2]; done) | (simp [inr_m1, h1, h2]; omega) | (clear hr; (try clear hkn); simp_all; done))) | (exfalso; clear hr; (try clear hkn); simp_all; done)))) rfl)
noncomputable def gdN (rf : Int32) (sz : Nat) : Nat → Nat
  | 0 => 0
  | c + 1 => gdN rf sz c + ifc (lwn rf sz c < 99) 1 0
theorem gdN_le (rf : Int32) (sz : Nat) : ∀ c, gdN rf sz c ≤ c
  | 0 => Nat.le_refl _
  | c + 1 => by
    have h := gdN_le rf sz c
    show gdN rf sz c + ifc _ 1 0 ≤ c + 1
    by_cases h2 : lwn rf sz c < 99
    · rw [ifc_t h2]; omega
    · rw [ifc_f h2]; omega
set_option maxRecDepth 100000 in
set_option maxHeartbeats 2000000 in
theorem c_X9_odds {g : Gl} {I : Ty} {L : TL} {na nt ni m : Nat} {nl : Nat → Nat} (pz : Int32) (pt : Int32) (pp : Nat) (hpp : pp ≤ 6) (hpe : I 65 0 = nI pp) (hN : mOK I) (hS : okS (mget I)) (hG : okG (I 70)) : Ct g yX9_odds cX9_odds 6 (some .long) 5 0 0 [.ref (g.1 + 65), .int pz, .int pt] I L (RT na nt ni) (NT nl) (NB + m) (Pq (some (.long (ifc (inr pz pp ∧ inr pt 2) (lowL (gdN (refv (mwel I pp (tn pz)) 16) (tn (I 69 (tn pz))) 16) 16 pt) (-9223372036854775808)))) I L (RT na nt ni) (NT nl) (NB + m)) := by
  refine ct_of (by decide +kernel) (Nat.le_of_ble_eq_true rfl) (fun F hnm hr => ?_)
  clear hnm
  show V g F cX9_odds RX9 6 5 0 [(0, .ref (g.1 + 65)), (1, .int pz), (2, .int pt)] [] I L (RT na nt ni) (NT nl) (NB + m) 0 0
  refine v_aload_n dX9_odds_0 rfl 0 rfl ?_
  refine v_iload_n dX9_odds_1 rfl 1 rfl ?_
  refine v_callVi (As := [.int pz]) (rest := []) lk_X9_245 (c_X9_isOne pz pp hpp hpe) dX9_odds_2 rfl (ltn rfl) rfl rfl (Nat.le_of_ble_eq_true rfl) (by decide) ?_
  refine v_ifb_eq (tgt := 18) dX9_odds_5 (by decide) (fun h1 => ?_) (fun h1 => ?_)
  · -- not inr pz pp
    refine v_ldc2 dX9_odds_18 uc_X9_401 ?_
    exact v_lret hr dX9_odds_21 (⟨congrArg (fun z => some (Value.long z)) (by first | rfl | (simp only [bq, ifc_T, ifc_F, inr_m1, and_true, true_and, and_false, false_and, or_true, true_or, or_false, false_or, not_true_eq_false, not_false_eq_true, and_self, or_self, h1]; done) | (simp [bq, ifc_T, ifc_F, inr_m1, h1]; done) | ((try simp only [bq]); repeat (first | rfl | (refine eq_t ?_ ?_; focus (first | omega | assumption | (simp [inr_m1, h1]; done) | (simp [inr_m1, h1]; omega) | (clear hr; (try clear hkn); simp_all; done))) | (refine eq_f ?_ ?_; focus (first | omega | assumption | (simp [inr_m1, h1]; done) | (simp [inr_m1, h1]; omega) | (clear hr; (try clear hkn); simp_all; done))) | (exfalso; clear hr; (try clear hkn); simp_all; done)))), ⟨_, _, scr_self I⟩, rfl, rfl, rfl, rfl⟩)
  · -- inr pz pp
    obtain ⟨P2, rfl, l3, t4, u5⟩ := inr_ex h1 (by omega)
    refine v_aload_n dX9_odds_8 rfl 0 rfl ?_
    refine v_iload_n dX9_odds_9 rfl 2 rfl ?_
    refine v_iconst (v := 0) dX9_odds_10 (by decide) ?_
    refine v_iconst (v := 1) dX9_odds_11 (by decide) ?_
    refine v_callVi (As := [.int pt, .int 0, .int 1]) (rest := []) lk_X9_237 (c_in0 pt 1 (by decide)) dX9_odds_12 rfl (ltn rfl) rfl rfl (Nat.le_of_ble_eq_true rfl) (by decide) ?_
    refine v_ifb_ne (tgt := 22) dX9_odds_15 (by decide) (fun h6 => ?_) (fun h6 => ?_)
    · -- inr pt 2
      refine v_aload_n dX9_odds_22 rfl 0 rfl ?_
      refine v_iload_n dX9_odds_23 rfl 1 rfl ?_
      refine v_callVqi (As := [.int (nI P2)]) (rest := []) lk_X9_340 (c_X9_refusals P2 pp hpp hpe (by omega) hN) dX9_odds_24 rfl (ltn rfl) rfl rfl (Nat.le_of_ble_eq_true rfl) (by decide) (fun fq7 hq8 => ?_)
      obtain ⟨sz, hsz, hes⟩ := hS P2 (by omega)
      have hes : I 69 P2 = nI sz := hes
      have tsz : tn (nI sz) = sz := tn_nI (by omega)
      have hgl := gdN_le (refv (mwel I pp P2) 16) sz 16
      refine v_istore_n (lv2 := [(3, .int (refv (mwel I pp P2) 16)), (0, .ref (g.1 + 65)), (1, .int (nI P2)), (2, .int pt)]) dX9_odds_27 rfl (by decide) rfl ?_
      refine v_iconst (v := 0) dX9_odds_28 (by decide) ?_
      refine v_istore (lv2 := [(4, .int 0), (3, .int (refv (mwel I pp P2) 16)), (0, .ref (g.1 + 65)), (1, .int (nI P2)), (2, .int pt)]) dX9_odds_29 (by decide) rfl ?_
      refine v_iconst (v := 0) dX9_odds_31 (by decide) ?_
      refine v_istore (lv2 := [(5, .int 0), (4, .int 0), (3, .int (refv (mwel I pp P2) 16)), (0, .ref (g.1 + 65)), (1, .int (nI P2)), (2, .int pt)]) dX9_odds_32 (by decide) rfl ?_
      refine v_lv (lv2 := [(5, .int (nI 0)), (4, .int (nI (gdN (refv (mwel I pp P2) 16) sz 0))), (3, .int (refv (mwel I pp P2) 16)), (0, .ref (g.1 + 65)), (1, .int (nI P2)), (2, .int pt)]) (by rfl) ?_
      refine dloop (P := fun i => ∀ (fq : Nat → Int32) (hq : Nat → Int32), V g F cX9_odds RX9 6 5 34 [(5, .int (nI i)), (4, .int (nI (gdN (refv (mwel I pp P2) 16) sz i))), (3, .int (refv (mwel I pp P2) 16)), (0, .ref (g.1 + 65)), (1, .int (nI P2)), (2, .int pt)] [] (scr I fq hq) L (RT na nt ni) (NT nl) (NB + m) 0 0) 16 ?_ ?_ 0 (Nat.zero_le _) fq7 hq8
      · intro fq hq
        refine v_iload dX9_odds_34 0 rfl ?_
        refine v_bipush (v := 16) dX9_odds_36 (by decide) ?_
        refine v_icmp_geN (a := 16) (b := 16) (tgt := 73) dX9_odds_38 (by decide) rfl rfl (by omega) (by omega) (fun h9 => ?_) (fun h => by exfalso; omega)
        refine v_aload_n dX9_odds_73 rfl 3 rfl ?_
        refine v_iload dX9_odds_74 1 rfl ?_
        refine v_bipush (v := 16) dX9_odds_76 (by decide) ?_
        refine v_iload_n dX9_odds_78 rfl 5 rfl ?_
        refine v_callVl (As := [.int (nI (gdN (refv (mwel I pp P2) 16) sz 16)), .int 16, .int pt]) (rest := []) lk_X9_403 (c_X9_lowest (I := (scr I fq hq)) (gdN (refv (mwel I pp P2) 16) sz 16) 16 pt (by omega) (by omega) (by omega)) dX9_odds_79 rfl (ltn rfl) rfl rfl (Nat.le_of_ble_eq_true rfl) (by decide) ?_
        exact v_lret hr dX9_odds_82 (⟨congrArg (fun z => some (Value.long z)) (by first | rfl | (simp only [bq, ifc_T, ifc_F, inr_m1, and_true, true_and, and_false, false_and, or_true, true_or, or_false, false_or, not_true_eq_false, not_false_eq_true, and_self, or_self, h1, t4, u5, l3, h6, h9, lowL, hes, tsz]; done) | (simp [bq, ifc_T, ifc_F, inr_m1, h1, t4, u5, l3, h6, h9, lowL, hes, tsz]; done) | ((try simp only [bq, lowL, hes, tsz]); repeat (first | rfl | (refine eq_t ?_ ?_; focus (first | omega | assumption | (simp [inr_m1, h1, t4, u5, l3, h6, h9]; done) | (simp [inr_m1, h1, t4, u5, l3, h6, h9]; omega) | (simp only [u5]; omega) | (clear hr; (try clear hkn); simp_all; done))) | (refine eq_f ?_ ?_; focus (first | omega | assumption | (simp [inr_m1, h1, t4, u5, l3, h6, h9]; done) | (simp [inr_m1, h1, t4, u5, l3, h6, h9]; omega) | (simp only [u5]; omega) | (clear hr; (try clear hkn); simp_all; done))) | (simp only [t4]; done) | (exfalso; clear hr; (try clear hkn); simp_all; done)))), ⟨_, _, rfl⟩, rfl, rfl, rfl, rfl⟩)
      · intro i hi ih
        intro fq hq
        have hgi := gdN_le (refv (mwel I pp P2) 16) sz i
        refine v_iload dX9_odds_34 0 rfl ?_
        refine v_bipush (v := 16) dX9_odds_36 (by decide) ?_
        refine v_icmp_geN (a := i) (b := 16) (tgt := 73) dX9_odds_38 (by decide) rfl rfl (by omega) (by omega) (fun h => by exfalso; omega) (fun h10 => ?_)
        refine v_iload dX9_odds_41 1 rfl ?_
        refine v_aload_n dX9_odds_43 rfl 3 rfl ?_
        refine v_iload_n dX9_odds_44 rfl 2 rfl ?_
        refine v_aload_n dX9_odds_45 rfl 3 rfl ?_
        refine v_get (v := .ref (g.1 + 69)) fa_X9_26 dX9_odds_46 rfl (by decide) (ltn rfl) rfl ?_
        refine v_iload_n dX9_odds_49 rfl 4 rfl ?_
        refine v_iaload (len := 6) (j := P2) dX9_odds_50 rfl (ltn rfl) rfl (by decide) rfl (by omega) ?_
        refine v_is (y := I 69 P2) (by rfl) ?_
        refine v_is (y := nI sz) hes ?_
        refine v_iload dX9_odds_51 0 rfl ?_
        refine v_callV (As := [.int (refv (mwel I pp P2) 16), .int (nI sz), .int (nI i)]) (rest := [.int (nI (gdN (refv (mwel I pp P2) 16) sz i))]) lk_X9_334 (c_X9_longWay (I := (scr I fq hq)) (refv (mwel I pp P2) 16) sz i (by omega) (by omega)) dX9_odds_53 rfl (ltn rfl) rfl rfl (Nat.le_of_ble_eq_true rfl) (by decide) (Nat.zero_le _) (Nat.zero_le _) (fun v I11 L_ R_ N_ n_ q12 => ?_)
        obtain ⟨rfl, ⟨hq, hrow, rfl⟩, rfl, rfl, rfl, rfl⟩ := q12
        have hD9 : ∀ j, j < 16 → dst (refv (mwel I pp P2) 16) i j ≤ 99 := fun j hj => (dst_is (refv (mwel I pp P2) 16) i j hj).1
        refine v_I (scr_scr _ _ _ _ _) ?_
        refine v_is (lw_lwn (refv (mwel I pp P2) 16) sz i) ?_
        by_cases hlt : lwn (refv (mwel I pp P2) 16) sz i < 99
        · refine v_is (ifc_t hlt) ?_
          have hl9 := lwn_le (refv (mwel I pp P2) 16) sz i
          refine v_if_ltN (a := (lwn (refv (mwel I pp P2) 16) sz i)) (tgt := 63) dX9_odds_56 (by decide) rfl (by omega) (fun h => by exfalso; omega) (fun _ => ?_)
          refine v_iconst (v := 1) dX9_odds_59 (by decide) ?_
          refine v_goto (tgt := 64) dX9_odds_60 (by decide) ?_
          refine v_iadd dX9_odds_64 ?_
          refine v_is (nx_add rfl rfl) ?_
          refine v_istore (lv2 := [(4, .int (nI ((gdN (refv (mwel I pp P2) 16) sz i) + 1))), (5, .int (nI i)), (3, .int (refv (mwel I pp P2) 16)), (0, .ref (g.1 + 65)), (1, .int (nI P2)), (2, .int pt)]) dX9_odds_65 (by decide) rfl ?_
          refine v_inc (v := nI (i + 1)) (lv2 := [(5, .int (nI (i + 1))), (4, .int (nI ((gdN (refv (mwel I pp P2) 16) sz i) + 1))), (3, .int (refv (mwel I pp P2) 16)), (0, .ref (g.1 + 65)), (1, .int (nI P2)), (2, .int pt)]) dX9_odds_67 1 rfl (nx_inc rfl) (by decide) rfl ?_
          refine v_goto (tgt := 34) dX9_odds_70 (by decide) ?_
          refine v_lv (lv2 := [(5, .int (nI (i + 1))), (4, .int (nI (gdN (refv (mwel I pp P2) 16) sz (i + 1)))), (3, .int (refv (mwel I pp P2) 16)), (0, .ref (g.1 + 65)), (1, .int (nI P2)), (2, .int pt)]) (by simp only [gdN, ifc_t hlt]) ?_
          exact ih _ _
        · refine v_is (ifc_f hlt) ?_
          refine v_if_lt (tgt := 63) dX9_odds_56 (by decide) (fun _ => ?_) (fun h => absurd (by decide) h)
          refine v_iconst (v := 0) dX9_odds_63 (by decide) ?_
          refine v_iadd dX9_odds_64 ?_
          refine v_is (nx_add rfl rfl) ?_
          refine v_istore (lv2 := [(4, .int (nI ((gdN (refv (mwel I pp P2) 16) sz i) + 0))), (5, .int (nI i)), (3, .int (refv (mwel I pp P2) 16)), (0, .ref (g.1 + 65)), (1, .int (nI P2)), (2, .int pt)]) dX9_odds_65 (by decide) rfl ?_
          refine v_inc (v := nI (i + 1)) (lv2 := [(5, .int (nI (i + 1))), (4, .int (nI ((gdN (refv (mwel I pp P2) 16) sz i) + 0))), (3, .int (refv (mwel I pp P2) 16)), (0, .ref (g.1 + 65)), (1, .int (nI P2)), (2, .int pt)]) dX9_odds_67 1 rfl (nx_inc rfl) (by decide) rfl ?_
          refine v_goto (tgt := 34) dX9_odds_70 (by decide) ?_
          refine v_lv (lv2 := [(5, .int (nI (i + 1))), (4, .int (nI (gdN (refv (mwel I pp P2) 16) sz (i + 1)))), (3, .int (refv (mwel I pp P2) 16)), (0, .ref (g.1 + 65)), (1, .int (nI P2)), (2, .int pt)]) (by simp only [gdN, ifc_f hlt]) ?_
          exact ih _ _
    · -- not inr pt 2
      refine v_ldc2 dX9_odds_18 uc_X9_401 ?_
      exact v_lret hr dX9_odds_21 (⟨congrArg (fun z => some (Value.long z)) (by first | rfl | (simp only [bq, ifc_T, ifc_F, inr_m1, and_true, true_and, and_false, false_and, or_true, true_or, or_false, false_or, not_true_eq_false, not_false_eq_true, and_self, or_self, h1, t4, u5, l3, h6]; done) | (simp [bq, ifc_T, ifc_F, inr_m1, h1, t4, u5, l3, h6]; done) | ((try simp only [bq]); repeat (first | rfl | (refine eq_t ?_ ?_; focus (first | omega | assumption | (simp [inr_m1, h1, t4, u5, l3, h6]; done) | (simp [inr_m1, h1, t4, u5, l3, h6]; omega) | (simp only [u5]; omega) | (clear hr; (try clear hkn); simp_all; done))) | (refine eq_f ?_ ?_; focus (first | omega | assumption | (simp [inr_m1, h1, t4, u5, l3, h6]; done) | (simp [inr_m1, h1, t4, u5, l3, h6]; omega) | (simp only [u5]; omega) | (clear hr; (try clear hkn); simp_all; done))) | (simp only [t4]; done) | (exfalso; clear hr; (try clear hkn); simp_all; done)))), ⟨_, _, scr_self I⟩, rfl, rfl, rfl, rfl⟩)
