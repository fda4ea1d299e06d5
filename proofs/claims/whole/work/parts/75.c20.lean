def eu (az bz : Nat) : Nat → Nat × Nat
  | 0 => (bz, az)
  | i + 1 => ((eu az bz i).2, (eu az bz i).1 % (eu az bz i).2)
def euI (az bz i : Nat) : Prop := 1 ≤ (eu az bz i).1 ∧ (eu az bz i).1 ≤ 100 ∧ (eu az bz i).2 ≤ 100 ∧ Nat.gcd (eu az bz i).2 (eu az bz i).1 = Nat.gcd az bz ∧ (i = 0 ∨ (eu az bz i).2 + i ≤ 17)
theorem euI_s {az bz i : Nat} (hbz : bz ≤ 16) (h : euI az bz i) (h0 : (eu az bz i).2 ≠ 0) : euI az bz (i + 1) := by
  obtain ⟨h1, h2, h3, h4, h5⟩ := h
  have hm := Nat.mod_lt (eu az bz i).1 (show 0 < (eu az bz i).2 by omega)
  refine ⟨?_, ?_, ?_, ?_, Or.inr ?_⟩
  · show 1 ≤ (eu az bz i).2; omega
  · show (eu az bz i).2 ≤ 100; omega
  · show (eu az bz i).1 % (eu az bz i).2 ≤ 100; omega
  · show Nat.gcd ((eu az bz i).1 % (eu az bz i).2) (eu az bz i).2 = _
    rw [← h4]; exact (Nat.gcd_rec _ _).symm
  · show (eu az bz i).1 % (eu az bz i).2 + (i + 1) ≤ 17
    rcases h5 with e | h5
    · subst e
      have h6 : (eu az bz 0).1 % (eu az bz 0).2 ≤ (eu az bz 0).1 := Nat.mod_le _ _
      have h7 : (eu az bz 0).1 = bz := rfl
      omega
    · omega
theorem euI_0 {az bz i : Nat} (h : euI az bz i) (h0 : (eu az bz i).2 = 0) : (eu az bz i).1 = Nat.gcd az bz := by
  have h4 := h.2.2.2.1
  rw [h0, Nat.gcd_zero_left] at h4; exact h4
set_option maxRecDepth 100000 in
set_option maxHeartbeats 1000000 in
theorem c_X8_lowest {g : Gl} {I : Ty} {L : TL} {na nt ni m : Nat} {nl : Nat → Nat} (az : Nat) (bz : Nat) (pt : Int32) (haz : az ≤ 96) (hb1 : 1 ≤ bz) (hb2 : bz ≤ 16) : Ct g yX8_lowest cX8_lowest 7 (some .long) 0 0 0 [.int (nI az), .int (nI bz), .int pt] I L (RT na nt ni) (NT nl) (NB + m) (Ps (some (.long (lowL az bz pt))) I L (RT na nt ni) (NT nl) (NB + m)) := by
  refine ct_of (by decide +kernel) (Nat.le_of_ble_eq_true rfl) (fun F hnm hr => ?_)
  clear hnm
  show V g F cX8_lowest RX8 7 0 0 [(0, .int (nI az)), (1, .int (nI bz)), (2, .int pt)] [] I L (RT na nt ni) (NT nl) (NB + m) 0 0
  refine v_iload_n dX8_lowest_0 rfl 1 rfl ?_
  refine v_istore_n (lv2 := [(3, .int (nI bz)), (0, .int (nI az)), (1, .int (nI bz)), (2, .int pt)]) dX8_lowest_1 rfl (by decide) rfl ?_
  refine v_iload_n dX8_lowest_2 rfl 1 rfl ?_
  refine v_istore (lv2 := [(4, .int (nI az)), (3, .int (nI bz)), (0, .int (nI az)), (1, .int (nI bz)), (2, .int pt)]) dX8_lowest_3 (by decide) rfl ?_
  refine v_iconst (v := 0) dX8_lowest_5 (by decide) ?_
  refine v_istore (lv2 := [(5, .int 0), (4, .int (nI az)), (3, .int (nI bz)), (0, .int (nI az)), (1, .int (nI bz)), (2, .int pt)]) dX8_lowest_6 (by decide) rfl ?_
  refine v_lv (lv2 := [(5, .int (nI 0)), (4, .int (nI ((eu az bz 0).2))), (3, .int (nI ((eu az bz 0).1))), (0, .int (nI az)), (1, .int (nI bz)), (2, .int pt)]) (by rfl) ?_
  refine dloop (P := fun i => (euI az bz i) → V g F cX8_lowest RX8 7 0 8 [(5, .int (nI i)), (4, .int (nI ((eu az bz i).2))), (3, .int (nI ((eu az bz i).1))), (0, .int (nI az)), (1, .int (nI bz)), (2, .int pt)] [] I L (RT na nt ni) (NT nl) (NB + m) 0 0) 64 ?_ ?_ 0 (Nat.zero_le _) (⟨hb1, by show bz ≤ 100; omega, by show az ≤ 100; omega, rfl, Or.inl rfl⟩)
  · intro hinv
    exfalso
    obtain ⟨_, _, _, _, h5⟩ := hinv
    omega
  · intro i hi ih
    intro hinv
    obtain ⟨hv1, hv2, hv3, hv4, hv5⟩ := id hinv
    refine v_iload dX8_lowest_8 0 rfl ?_
    refine v_bipush (v := 64) dX8_lowest_10 (by decide) ?_
    refine v_icmp_geN (a := i) (b := 64) (tgt := 39) dX8_lowest_12 (by decide) rfl rfl (by omega) (by omega) (fun h => by exfalso; omega) (fun h1 => ?_)
    refine v_iload dX8_lowest_15 1 rfl ?_
    refine v_if_eqN (a := (eu az bz i).2) (tgt := 39) dX8_lowest_17 (by decide) rfl (by omega) (fun h3 => ?_) (fun h3 => ?_)
    · have hdv := euI_0 hinv h3
      refine v_iload_n dX8_lowest_39 rfl 2 rfl ?_
      refine v_if_neN (a := (eu az bz i).1) (tgt := 47) dX8_lowest_40 (by decide) rfl (by omega) (fun h4 => ?_) (fun h => by exfalso; omega)
      refine v_iload_n dX8_lowest_47 rfl 5 rfl ?_
      refine v_if_ne (tgt := 55) dX8_lowest_48 (by decide) (fun h5 => ?_) (fun h5 => ?_)
      · -- pt ne 0
        refine v_iload_n dX8_lowest_55 rfl 4 rfl ?_
        refine v_iload_n dX8_lowest_56 rfl 2 rfl ?_
        refine v_idiv dX8_lowest_57 (nI_ne0 (by omega) (by omega)) ?_
        refine v_is (nx_div rfl (d := (eu az bz i).1) (by omega) (by omega) (by omega)) ?_
        refine v_i2l dX8_lowest_58 ?_
        exact v_lret hr dX8_lowest_59 (psl (by unfold lowL; rw [← hdv]; first | rfl | (simp only [bq, ifc_T, ifc_F, inr_m1, and_true, true_and, and_false, false_and, or_true, true_or, or_false, false_or, not_true_eq_false, not_false_eq_true, and_self, or_self, h1, h4, h5]; done) | (simp [bq, ifc_T, ifc_F, inr_m1, h1, h4, h5]; done) | ((try simp only [bq]); repeat (first | rfl | (refine eq_t ?_ ?_; focus (first | omega | assumption | (simp [inr_m1, h1, h4, h5]; done) | (simp [inr_m1, h1, h4, h5]; omega) | (clear hr; (try clear hkn); simp_all; done))) | (refine eq_f ?_ ?_; focus (first | omega | assumption | (simp [inr_m1, h1, h4, h5]; done) | (simp [inr_m1, h1, h4, h5]; omega) | (clear hr; (try clear hkn); simp_all; done))) | (exfalso; clear hr; (try clear hkn); simp_all; done)))) rfl)
      · -- pt eq 0
        refine v_iload_n dX8_lowest_51 rfl 3 rfl ?_
        refine v_goto (tgt := 56) dX8_lowest_52 (by decide) ?_
        refine v_iload_n dX8_lowest_56 rfl 2 rfl ?_
        refine v_idiv dX8_lowest_57 (nI_ne0 (by omega) (by omega)) ?_
        refine v_is (nx_div rfl (d := (eu az bz i).1) (by omega) (by omega) (by omega)) ?_
        refine v_i2l dX8_lowest_58 ?_
        exact v_lret hr dX8_lowest_59 (psl (by unfold lowL; rw [← hdv]; first | rfl | (simp only [bq, ifc_T, ifc_F, inr_m1, and_true, true_and, and_false, false_and, or_true, true_or, or_false, false_or, not_true_eq_false, not_false_eq_true, and_self, or_self, h1, h4, h5]; done) | (simp [bq, ifc_T, ifc_F, inr_m1, h1, h4, h5]; done) | ((try simp only [bq]); repeat (first | rfl | (refine eq_t ?_ ?_; focus (first | omega | assumption | (simp [inr_m1, h1, h4, h5]; done) | (simp [inr_m1, h1, h4, h5]; omega) | (clear hr; (try clear hkn); simp_all; done))) | (refine eq_f ?_ ?_; focus (first | omega | assumption | (simp [inr_m1, h1, h4, h5]; done) | (simp [inr_m1, h1, h4, h5]; omega) | (clear hr; (try clear hkn); simp_all; done))) | (exfalso; clear hr; (try clear hkn); simp_all; done)))) rfl)
    · refine v_iload_n dX8_lowest_20 rfl 2 rfl ?_
      refine v_iload dX8_lowest_21 1 rfl ?_
      refine v_irem dX8_lowest_23 (nI_ne0 (by omega) (by omega)) ?_
      refine v_is (nx_rem rfl (d := (eu az bz i).2) (by omega) (by omega) (by omega)) ?_
      refine v_istore (lv2 := [(6, .int (nI ((eu az bz i).1 % (eu az bz i).2))), (5, .int (nI i)), (4, .int (nI ((eu az bz i).2))), (3, .int (nI ((eu az bz i).1))), (0, .int (nI az)), (1, .int (nI bz)), (2, .int pt)]) dX8_lowest_24 (by decide) rfl ?_
      refine v_iload dX8_lowest_26 2 rfl ?_
      refine v_istore_n (lv2 := [(3, .int (nI ((eu az bz i).2))), (6, .int (nI ((eu az bz i).1 % (eu az bz i).2))), (5, .int (nI i)), (4, .int (nI ((eu az bz i).2))), (0, .int (nI az)), (1, .int (nI bz)), (2, .int pt)]) dX8_lowest_28 rfl (by decide) rfl ?_
      refine v_iload dX8_lowest_29 1 rfl ?_
      refine v_istore (lv2 := [(4, .int (nI ((eu az bz i).1 % (eu az bz i).2))), (3, .int (nI ((eu az bz i).2))), (6, .int (nI ((eu az bz i).1 % (eu az bz i).2))), (5, .int (nI i)), (0, .int (nI az)), (1, .int (nI bz)), (2, .int pt)]) dX8_lowest_31 (by decide) rfl ?_
      refine v_inc (v := nI (i + 1)) (lv2 := [(5, .int (nI (i + 1))), (4, .int (nI ((eu az bz i).1 % (eu az bz i).2))), (3, .int (nI ((eu az bz i).2))), (6, .int (nI ((eu az bz i).1 % (eu az bz i).2))), (0, .int (nI az)), (1, .int (nI bz)), (2, .int pt)]) dX8_lowest_33 3 rfl (nx_inc rfl) (by decide) rfl ?_
      refine v_goto (tgt := 8) dX8_lowest_36 (by decide) ?_
      refine v_sub (lv2 := [(5, .int (nI (i + 1))), (4, .int (nI ((eu az bz i).1 % (eu az bz i).2))), (3, .int (nI ((eu az bz i).2))), (0, .int (nI az)), (1, .int (nI bz)), (2, .int pt)]) [0, 1, 2, 4, 5, 6] rfl ?_
      refine v_lv (lv2 := [(5, .int (nI (i + 1))), (4, .int (nI ((eu az bz (i + 1)).2))), (3, .int (nI ((eu az bz (i + 1)).1))), (0, .int (nI az)), (1, .int (nI bz)), (2, .int pt)]) (by rfl) ?_
      exact ih (euI_s hb2 hinv h3)
