theorem v_L {g : Gl} {F : Fx} {cc : ByteArray} {own : String} {nL d pc : Nat} {lv : List (Nat × Value)} {st : List Value} {I : Ty} {L : TL} {R : TR} {N : TN} {n kr sr : Nat} {L2 : TL} (e : L = L2) (k : V g F cc own nL d pc lv st I L2 R N n kr sr) : V g F cc own nL d pc lv st I L R N n kr sr := by rw [e]; exact k
theorem lcmp0 (x y : Int64) : lg_cmp x y = 0 ↔ x = y := by
  unfold lg_cmp
  constructor
  · intro h
    by_cases h1 : x > y
    · rw [if_pos h1] at h; exact absurd h (by decide)
    · rw [if_neg h1] at h
      by_cases h2 : x = y
      · exact h2
      · rw [if_neg h2] at h; exact absurd h (by decide)
  · intro h
    subst h
    rw [if_neg (Int64.lt_irrefl), if_pos rfl]
theorem nlt0 {x : Int32} (h : ¬ x < 0) : 0 ≤ x.toInt := by
  have h1 := Int32.le_iff_toInt_le.mp (Int32.not_lt.mp h)
  exact h1
theorem jneg : ∀ ln, ln ≤ 15 → ∀ c, c < 16 → ln ≤ c → nI ln - nI c - 1 < 0 := by decide +kernel
theorem jle {x : Int32} {ln c : Nat} (hln : ln ≤ 60) (hc : c < 16) (h0 : ¬ x < 0) : (x ≤ nI ln - nI c - 1) ↔ tn x + c < ln := by
  have hx := nI_tn (nlt0 h0)
  by_cases h : c + 1 ≤ ln
  · rw [nx_sub rfl rfl (by omega : c ≤ ln), show (nI (ln - c) - 1 : Int32) = nI (ln - c - 1) from nx_sub (b := 1) rfl rfl (by omega)]
    have h1 := tn_int (nlt0 h0)
    constructor
    · intro q; have q := Int32.le_iff_toInt_le.mp q; rw [nI_toInt (by omega)] at q; omega
    · intro q; apply Int32.le_iff_toInt_le.mpr; rw [nI_toInt (by omega)]; omega
  · constructor
    · intro q
      exact absurd (Int32.lt_of_le_of_lt q (jneg ln (by omega) c hc (by omega))) h0
    · intro q; omega
/-- no such item for the cell -/
def jout (sr : Int32) (ln : Nat) (x : Int32) (c : Nat) : Prop := sr < 0 ∨ x < 0 ∨ ln ≤ tn x + c
def jhit (sr : Int32) (ln b : Nat) (it : Nat → Int64) (gt : Nat → Int32) (x : Int32) (c : Nat) : Prop := jout sr ln x c ∨ ¬ it (b + tn x + c) = (gt c).toInt64
noncomputable def jdgF (sr : Int32) (ln b : Nat) (it : Nat → Int64) (gt : Nat → Int32) (x : Int32) : Int32 := ifc (frst (jhit sr ln b it gt x) 16 = 16) (-5) (ifc (jout sr ln x (frst (jhit sr ln b it gt x) 16)) (nI (100 + frst (jhit sr ln b it gt x) 16)) (nI (frst (jhit sr ln b it gt x) 16)))
theorem jdg_e {sr : Int32} {ln b : Nat} {it : Nat → Int64} {gt : Nat → Int32} {x : Int32} (h : ∀ j, j < 16 → ¬ jhit sr ln b it gt x j) : jdgF sr ln b it gt x = -5 := by
  unfold jdgF; rw [frst_eq (i := 16) (Nat.le_refl _) (Or.inl rfl) h, ifc_t rfl]
theorem jdg_o {sr : Int32} {ln b : Nat} {it : Nat → Int64} {gt : Nat → Int32} {x : Int32} {i : Nat} (hi : i < 16) (h : ∀ j, j < i → ¬ jhit sr ln b it gt x j) (ho : jout sr ln x i) : jdgF sr ln b it gt x = nI (100 + i) := by
  unfold jdgF; rw [frst_eq (i := i) (by omega) (Or.inr (Or.inl ho)) h, ifc_f (by omega), ifc_t ho]
theorem jdg_c {sr : Int32} {ln b : Nat} {it : Nat → Int64} {gt : Nat → Int32} {x : Int32} {i : Nat} (hi : i < 16) (h : ∀ j, j < i → ¬ jhit sr ln b it gt x j) (ho : ¬ jout sr ln x i) (hq : ¬ it (b + tn x + i) = (gt i).toInt64) : jdgF sr ln b it gt x = nI i := by
  unfold jdgF; rw [frst_eq (i := i) (by omega) (Or.inr (Or.inr hq)) h, ifc_f (by omega), ifc_f ho]
def tapOK (I : Ty) : Prop := ∀ t, t < 6 → ∃ ln, ln ≤ 60 ∧ I 113 t = nI ln
set_option maxRecDepth 100000 in
set_option maxHeartbeats 400000 in
theorem c_X9_judge {g : Gl} {I : Ty} {L : TL} {na nt ni m : Nat} {nl : Nat → Nat} (tz : Int32) (iz : Int32) (hT : tapOK I) : Ct g yX9_judge cX9_judge 4 (some .int) 3 0 0 [.ref (g.1 + 65), .int tz, .int iz] I L (RT na nt ni) (NT nl) (NB + m) (Ps (some (.int (ifc (inr tz 6) (ifc (0 < I 112 (tn tz)) (-12) (jdgF (I 112 (tn tz)) (tn (I 113 (tn tz))) (60 * tn tz) (L 114) (I 66) iz)) (-1)))) (I) L (RT na nt ni) (NT nl) (NB + m)) := by
  refine ct_of (by decide +kernel) (Nat.le_of_ble_eq_true rfl) (fun F hnm hr => ?_)
  clear hnm
  show V g F cX9_judge RX9 4 3 0 [(0, .ref (g.1 + 65)), (1, .int tz), (2, .int iz)] [] I L (RT na nt ni) (NT nl) (NB + m) 0 0
  refine v_aload_n dX9_judge_0 rfl 0 rfl ?_
  refine v_iload_n dX9_judge_1 rfl 1 rfl ?_
  refine v_callVi (As := [.int tz]) (rest := []) lk_X9_410 (c_X9_isTape tz) dX9_judge_2 rfl (ltn rfl) rfl rfl (Nat.le_of_ble_eq_true rfl) (by decide) ?_
  refine v_ifb_ne (tgt := 10) dX9_judge_5 (by decide) (fun h1 => ?_) (fun h1 => ?_)
  · -- inr tz 6
    obtain ⟨P2, rfl, l3, t4, u5⟩ := inr_ex h1 (by omega)
    obtain ⟨ln, hln, hle⟩ := hT P2 l3
    have hle2 : tn (I 113 P2) = ln := by rw [hle, tn_nI (by omega)]
    refine v_aload_n dX9_judge_10 rfl 0 rfl ?_
    refine v_get (v := .ref (g.1 + 112)) fa_X9_220 dX9_judge_11 rfl (by decide) (ltn rfl) rfl ?_
    refine v_iload_n dX9_judge_14 rfl 1 rfl ?_
    refine v_iaload (len := 6) (j := P2) dX9_judge_15 rfl (ltn rfl) rfl (by decide) rfl (by omega) ?_
    refine v_if_le (tgt := 22) dX9_judge_16 (by decide) (fun h7 => ?_) (fun h7 => ?_)
    · have hsn := Int32.not_lt.mpr h7
      refine v_iconst (v := 0) dX9_judge_22 (by decide) ?_
      refine v_istore_n (lv2 := [(3, .int 0), (0, .ref (g.1 + 65)), (1, .int (nI P2)), (2, .int iz)]) dX9_judge_23 rfl (by decide) rfl ?_
      refine v_lv (lv2 := [(3, .int (nI 0)), (0, .ref (g.1 + 65)), (1, .int (nI P2)), (2, .int iz)]) (by rfl) ?_
      refine dloop (P := fun i => (∀ j, j < i → ¬ (jhit (I 112 P2) ln (60 * P2) (L 114) (I 66) iz j)) → V g F cX9_judge RX9 4 3 24 [(3, .int (nI i)), (0, .ref (g.1 + 65)), (1, .int (nI P2)), (2, .int iz)] [] I L (RT na nt ni) (NT nl) (NB + m) 0 0) 16 ?_ ?_ 0 (Nat.zero_le _) (fun j h => absurd h (Nat.not_lt_zero j))
      · intro hinv
        refine v_iload_n dX9_judge_24 rfl 0 rfl ?_
        refine v_bipush (v := 16) dX9_judge_25 (by decide) ?_
        refine v_icmp_geN (a := 16) (b := 16) (tgt := 94) dX9_judge_27 (by decide) rfl rfl (by omega) (by omega) (fun h8 => ?_) (fun h => by exfalso; omega)
        refine v_bipush (v := (-5)) dX9_judge_94 (by decide) ?_
        exact v_iret hr dX9_judge_96 (psi (by rw [ifc_t h1, t4, ifc_f hsn, hle2]; exact (jdg_e hinv).symm) rfl)
      · intro i hi ih
        intro hinv
        refine v_iload_n dX9_judge_24 rfl 0 rfl ?_
        refine v_bipush (v := 16) dX9_judge_25 (by decide) ?_
        refine v_icmp_geN (a := i) (b := 16) (tgt := 94) dX9_judge_27 (by decide) rfl rfl (by omega) (by omega) (fun h => by exfalso; omega) (fun h9 => ?_)
        refine v_aload_n dX9_judge_30 rfl 1 rfl ?_
        refine v_get (v := .ref (g.1 + 112)) fa_X9_220 dX9_judge_31 rfl (by decide) (ltn rfl) rfl ?_
        refine v_iload_n dX9_judge_34 rfl 2 rfl ?_
        refine v_iaload (len := 6) (j := P2) dX9_judge_35 rfl (ltn rfl) rfl (by decide) rfl (by omega) ?_
        refine v_if_lt (tgt := 57) dX9_judge_36 (by decide) (fun h11 => ?_) (fun h11 => ?_)
        · refine v_bipush (v := 100) dX9_judge_57 (by decide) ?_
          refine v_iload_n dX9_judge_59 rfl 0 rfl ?_
          refine v_iadd dX9_judge_60 ?_
          refine v_is (nx_add rfl rfl) ?_
          exact v_iret hr dX9_judge_61 (psi (by rw [ifc_t h1, t4, ifc_f hsn, hle2]; exact (jdg_o hi hinv (Or.inl h11)).symm) rfl)
        · refine v_iload_n dX9_judge_39 rfl 3 rfl ?_
          refine v_if_lt (tgt := 57) dX9_judge_40 (by decide) (fun h13 => ?_) (fun h13 => ?_)
          · refine v_bipush (v := 100) dX9_judge_57 (by decide) ?_
            refine v_iload_n dX9_judge_59 rfl 0 rfl ?_
            refine v_iadd dX9_judge_60 ?_
            refine v_is (nx_add rfl rfl) ?_
            exact v_iret hr dX9_judge_61 (psi (by rw [ifc_t h1, t4, ifc_f hsn, hle2]; exact (jdg_o hi hinv (Or.inr (Or.inl h13))).symm) rfl)
          · refine v_iload_n dX9_judge_43 rfl 3 rfl ?_
            refine v_aload_n dX9_judge_44 rfl 1 rfl ?_
            refine v_get (v := .ref (g.1 + 113)) fa_X9_223 dX9_judge_45 rfl (by decide) (ltn rfl) rfl ?_
            refine v_iload_n dX9_judge_48 rfl 2 rfl ?_
            refine v_iaload (len := 6) (j := P2) dX9_judge_49 rfl (ltn rfl) rfl (by decide) rfl (by omega) ?_
            refine v_is hle ?_
            refine v_iload_n dX9_judge_50 rfl 0 rfl ?_
            refine v_isub dX9_judge_51 ?_
            refine v_iconst (v := 1) dX9_judge_52 (by decide) ?_
            refine v_isub dX9_judge_53 ?_
            have hjl := jle (x := iz) hln hi h13
            refine v_icmp_le (tgt := 62) dX9_judge_54 (by decide) (fun h15 => ?_) (fun h15 => ?_)
            · have hlt := hjl.mp h15
              have hzn := nI_tn (nlt0 h13)
              have hno : ¬ jout (I 112 P2) ln iz i := fun q => q.elim h11 (fun q => q.elim h13 (fun q => absurd hlt (Nat.not_lt.mpr q)))
              refine v_aload_n dX9_judge_62 rfl 1 rfl ?_
              refine v_get (v := .ref (g.1 + 114)) fa_X9_226 dX9_judge_63 rfl (by decide) (ltn rfl) rfl ?_
              refine v_bipush (v := 60) dX9_judge_66 (by decide) ?_
              refine v_iload_n dX9_judge_68 rfl 2 rfl ?_
              refine v_imul dX9_judge_69 ?_
              refine v_is (nx_mul rfl rfl) ?_
              refine v_iload_n dX9_judge_70 rfl 3 rfl ?_
              refine v_iadd dX9_judge_71 ?_
              refine v_is (nx_add rfl hzn) ?_
              refine v_iload_n dX9_judge_72 rfl 0 rfl ?_
              refine v_iadd dX9_judge_73 ?_
              refine v_is (nx_add rfl rfl) ?_
              refine v_laload (len := 360) (j := (((60 * P2) + (tn iz)) + i)) dX9_judge_74 rfl (ltn rfl) rfl (by decide) rfl (by omega) ?_
              refine v_aload_n dX9_judge_75 rfl 1 rfl ?_
              refine v_get (v := .ref (g.1 + 66)) fa_X9_16 dX9_judge_76 rfl (by decide) (ltn rfl) rfl ?_
              refine v_iload_n dX9_judge_79 rfl 0 rfl ?_
              refine v_iaload (len := 16) (j := i) dX9_judge_80 rfl (ltn rfl) rfl (by decide) rfl (by omega) ?_
              refine v_i2l dX9_judge_81 ?_
              refine v_lcmp dX9_judge_82 ?_
              refine v_if_eq (tgt := 88) dX9_judge_83 (by decide) (fun h17 => ?_) (fun h17 => ?_)
              · have hsame := (lcmp0 _ _).mp h17
                refine v_inc (v := nI (i + 1)) (lv2 := [(3, .int (nI (i + 1))), (0, .ref (g.1 + 65)), (1, .int (nI P2)), (2, .int iz)]) dX9_judge_88 0 rfl (nx_inc rfl) (by decide) rfl ?_
                refine v_goto (tgt := 24) dX9_judge_91 (by decide) ?_
                exact ih (ks_step hinv (fun q => q.elim hno (fun q => q hsame)))
              · have hdif := fun q => h17 ((lcmp0 _ _).mpr q)
                refine v_iload_n dX9_judge_86 rfl 0 rfl ?_
                exact v_iret hr dX9_judge_87 (psi (by rw [ifc_t h1, t4, ifc_f hsn, hle2]; exact (jdg_c hi hinv hno hdif).symm) rfl)
            · refine v_bipush (v := 100) dX9_judge_57 (by decide) ?_
              refine v_iload_n dX9_judge_59 rfl 0 rfl ?_
              refine v_iadd dX9_judge_60 ?_
              refine v_is (nx_add rfl rfl) ?_
              exact v_iret hr dX9_judge_61 (psi (by rw [ifc_t h1, t4, ifc_f hsn, hle2]; exact (jdg_o hi hinv (Or.inr (Or.inr (Nat.not_lt.mp (fun q => h15 (hjl.mpr q)))))).symm) rfl)
    · refine v_bipush (v := (-12)) dX9_judge_19 (by decide) ?_
      exact v_iret hr dX9_judge_21 (psi (by rw [ifc_t h1, t4, ifc_t (Int32.not_le.mp h7)]) rfl)
  · -- not inr tz 6
    refine v_iconst (v := (-1)) dX9_judge_8 (by decide) ?_
    exact v_iret hr dX9_judge_9 (psi (by first | rfl | (simp only [bq, ifc_T, ifc_F, inr_m1, and_true, true_and, and_false, false_and, or_true, true_or, or_false, false_or, not_true_eq_false, not_false_eq_true, and_self, or_self, h1]; done) | (simp [bq, ifc_T, ifc_F, inr_m1, h1]; done) | ((try simp only [bq]); repeat (first | rfl | (refine eq_t ?_ ?_; focus (first | omega | assumption | (simp [inr_m1, h1]; done) | (simp [inr_m1, h1]; omega) | (clear hr; (try clear hkn); simp_all; done))) | (refine eq_f ?_ ?_; focus (first | omega | assumption | (simp [inr_m1, h1]; done) | (simp [inr_m1, h1]; omega) | (clear hr; (try clear hkn); simp_all; done))) | (exfalso; clear hr; (try clear hkn); simp_all; done)))) rfl)
noncomputable def narF (sz : Int32) (z : Int64) : Int64 := ifc (sz = 0) z.toInt32.toInt8.toInt32.toInt64 (ifc (sz = 1) z.toInt32.toInt16.toInt32.toInt64 (ifc (sz = 2) z.toInt32.toInt64 (ifc (sz = 4) (ifc (z = 0) 0 1) z)))
set_option maxRecDepth 100000 in
set_option maxHeartbeats 400000 in
theorem c_X9_narrow {g : Gl} {I : Ty} {L : TL} {na nt ni m : Nat} {nl : Nat → Nat} (sz : Int32) (zz : Int64)  : Ct g yX9_narrow cX9_narrow 4 (some .long) 0 0 0 [.ref (g.1 + 65), .int sz, .long zz] I L (RT na nt ni) (NT nl) (NB + m) (Ps (some (.long (narF sz zz))) (I) L (RT na nt ni) (NT nl) (NB + m)) := by
  refine ct_of (by decide +kernel) (Nat.le_of_ble_eq_true rfl) (fun F hnm hr => ?_)
  clear hnm
  show V g F cX9_narrow RX9 4 0 0 [(0, .ref (g.1 + 65)), (1, .int sz), (2, .long zz)] [] I L (RT na nt ni) (NT nl) (NB + m) 0 0
  refine v_iload_n dX9_narrow_0 rfl 1 rfl ?_
  refine v_if_ne (tgt := 11) dX9_narrow_1 (by decide) (fun h1 => ?_) (fun h1 => ?_)
  · -- sz ne 0
    refine v_iload_n dX9_narrow_11 rfl 1 rfl ?_
    refine v_iconst (v := 1) dX9_narrow_12 (by decide) ?_
    refine v_icmp_ne (tgt := 23) dX9_narrow_13 (by decide) (fun h2 => ?_) (fun h2 => ?_)
    · -- sz ne 1
      refine v_iload_n dX9_narrow_23 rfl 1 rfl ?_
      refine v_iconst (v := 2) dX9_narrow_24 (by decide) ?_
      refine v_icmp_ne (tgt := 34) dX9_narrow_25 (by decide) (fun h3 => ?_) (fun h3 => ?_)
      · -- sz ne 2
        refine v_iload_n dX9_narrow_34 rfl 1 rfl ?_
        refine v_iconst (v := 4) dX9_narrow_35 (by decide) ?_
        refine v_icmp_ne (tgt := 53) dX9_narrow_36 (by decide) (fun h4 => ?_) (fun h4 => ?_)
        · -- sz ne 4
          refine v_lload_n dX9_narrow_53 rfl 2 rfl ?_
          exact v_lret hr dX9_narrow_54 (psl (by first | rfl | (simp only [bq, ifc_T, ifc_F, inr_m1, and_true, true_and, and_false, false_and, or_true, true_or, or_false, false_or, not_true_eq_false, not_false_eq_true, and_self, or_self, h1, h2, h3, h4, narF]; done) | (simp [bq, ifc_T, ifc_F, inr_m1, h1, h2, h3, h4, narF]; done) | ((try simp only [bq, narF]); repeat (first | rfl | (refine eq_t ?_ ?_; focus (first | omega | assumption | (simp [inr_m1, h1, h2, h3, h4]; done) | (simp [inr_m1, h1, h2, h3, h4]; omega) | (clear hr; (try clear hkn); simp_all; done))) | (refine eq_f ?_ ?_; focus (first | omega | assumption | (simp [inr_m1, h1, h2, h3, h4]; done) | (simp [inr_m1, h1, h2, h3, h4]; omega) | (clear hr; (try clear hkn); simp_all; done))) | (exfalso; clear hr; (try clear hkn); simp_all; done)))) rfl)
        · -- sz eq 4
          refine v_lload_n dX9_narrow_39 rfl 2 rfl ?_
          refine v_lconst (v := 0) dX9_narrow_40 rfl ?_
          refine v_lcmp dX9_narrow_41 ?_
          refine v_if_eq (tgt := 49) dX9_narrow_42 (by decide) (fun h6 => ?_) (fun h6 => ?_)
          · have hze := (lcmp0 _ _).mp h6
            refine v_lconst (v := 0) dX9_narrow_49 rfl ?_
            refine v_goto (tgt := 54) dX9_narrow_50 (by decide) ?_
            exact v_lret hr dX9_narrow_54 (psl (by first | rfl | (simp only [bq, ifc_T, ifc_F, inr_m1, and_true, true_and, and_false, false_and, or_true, true_or, or_false, false_or, not_true_eq_false, not_false_eq_true, and_self, or_self, h1, h2, h3, h4, hze, narF]; done) | (simp [bq, ifc_T, ifc_F, inr_m1, h1, h2, h3, h4, hze, narF]; done) | ((try simp only [bq, narF]); repeat (first | rfl | (refine eq_t ?_ ?_; focus (first | omega | assumption | (simp [inr_m1, h1, h2, h3, h4, hze]; done) | (simp [inr_m1, h1, h2, h3, h4, hze]; omega) | (clear hr; (try clear hkn); simp_all; done))) | (refine eq_f ?_ ?_; focus (first | omega | assumption | (simp [inr_m1, h1, h2, h3, h4, hze]; done) | (simp [inr_m1, h1, h2, h3, h4, hze]; omega) | (clear hr; (try clear hkn); simp_all; done))) | (exfalso; clear hr; (try clear hkn); simp_all; done)))) rfl)
          · have hze := fun q => h6 ((lcmp0 _ _).mpr q)
            refine v_lconst (v := 1) dX9_narrow_45 rfl ?_
            refine v_goto (tgt := 54) dX9_narrow_46 (by decide) ?_
            exact v_lret hr dX9_narrow_54 (psl (by first | rfl | (simp only [bq, ifc_T, ifc_F, inr_m1, and_true, true_and, and_false, false_and, or_true, true_or, or_false, false_or, not_true_eq_false, not_false_eq_true, and_self, or_self, h1, h2, h3, h4, hze, narF]; done) | (simp [bq, ifc_T, ifc_F, inr_m1, h1, h2, h3, h4, hze, narF]; done) | ((try simp only [bq, narF]); repeat (first | rfl | (refine eq_t ?_ ?_; focus (first | omega | assumption | (simp [inr_m1, h1, h2, h3, h4, hze]; done) | (simp [inr_m1, h1, h2, h3, h4, hze]; omega) | (clear hr; (try clear hkn); simp_all; done))) | (refine eq_f ?_ ?_; focus (first | omega | assumption | (simp [inr_m1, h1, h2, h3, h4, hze]; done) | (simp [inr_m1, h1, h2, h3, h4, hze]; omega) | (clear hr; (try clear hkn); simp_all; done))) | (exfalso; clear hr; (try clear hkn); simp_all; done)))) rfl)
      · -- sz eq 2
        refine v_lload_n dX9_narrow_28 rfl 2 rfl ?_
        refine v_l2i dX9_narrow_29 ?_
        refine v_i2l dX9_narrow_30 ?_
        refine v_goto (tgt := 54) dX9_narrow_31 (by decide) ?_
        exact v_lret hr dX9_narrow_54 (psl (by first | rfl | (simp only [bq, ifc_T, ifc_F, inr_m1, and_true, true_and, and_false, false_and, or_true, true_or, or_false, false_or, not_true_eq_false, not_false_eq_true, and_self, or_self, h1, h2, h3, narF]; done) | (simp [bq, ifc_T, ifc_F, inr_m1, h1, h2, h3, narF]; done) | ((try simp only [bq, narF]); repeat (first | rfl | (refine eq_t ?_ ?_; focus (first | omega | assumption | (simp [inr_m1, h1, h2, h3]; done) | (simp [inr_m1, h1, h2, h3]; omega) | (clear hr; (try clear hkn); simp_all; done))) | (refine eq_f ?_ ?_; focus (first | omega | assumption | (simp [inr_m1, h1, h2, h3]; done) | (simp [inr_m1, h1, h2, h3]; omega) | (clear hr; (try clear hkn); simp_all; done))) | (exfalso; clear hr; (try clear hkn); simp_all; done)))) rfl)
    · -- sz eq 1
      refine v_lload_n dX9_narrow_16 rfl 2 rfl ?_
      refine v_l2i dX9_narrow_17 ?_
      refine v_i2s dX9_narrow_18 ?_
      refine v_i2l dX9_narrow_19 ?_
      refine v_goto (tgt := 54) dX9_narrow_20 (by decide) ?_
      exact v_lret hr dX9_narrow_54 (psl (by first | rfl | (simp only [bq, ifc_T, ifc_F, inr_m1, and_true, true_and, and_false, false_and, or_true, true_or, or_false, false_or, not_true_eq_false, not_false_eq_true, and_self, or_self, h1, h2, narF]; done) | (simp [bq, ifc_T, ifc_F, inr_m1, h1, h2, narF]; done) | ((try simp only [bq, narF]); repeat (first | rfl | (refine eq_t ?_ ?_; focus (first | omega | assumption | (simp [inr_m1, h1, h2]; done) | (simp [inr_m1, h1, h2]; omega) | (clear hr; (try clear hkn); simp_all; done))) | (refine eq_f ?_ ?_; focus (first | omega | assumption | (simp [inr_m1, h1, h2]; done) | (simp [inr_m1, h1, h2]; omega) | (clear hr; (try clear hkn); simp_all; done))) | (exfalso; clear hr; (try clear hkn); simp_all; done)))) rfl)
  · -- sz eq 0
    refine v_lload_n dX9_narrow_4 rfl 2 rfl ?_
    refine v_l2i dX9_narrow_5 ?_
    refine v_i2b dX9_narrow_6 ?_
    refine v_i2l dX9_narrow_7 ?_
    refine v_goto (tgt := 54) dX9_narrow_8 (by decide) ?_
    exact v_lret hr dX9_narrow_54 (psl (by first | rfl | (simp only [bq, ifc_T, ifc_F, inr_m1, and_true, true_and, and_false, false_and, or_true, true_or, or_false, false_or, not_true_eq_false, not_false_eq_true, and_self, or_self, h1, narF]; done) | (simp [bq, ifc_T, ifc_F, inr_m1, h1, narF]; done) | ((try simp only [bq, narF]); repeat (first | rfl | (refine eq_t ?_ ?_; focus (first | omega | assumption | (simp [inr_m1, h1]; done) | (simp [inr_m1, h1]; omega) | (clear hr; (try clear hkn); simp_all; done))) | (refine eq_f ?_ ?_; focus (first | omega | assumption | (simp [inr_m1, h1]; done) | (simp [inr_m1, h1]; omega) | (clear hr; (try clear hkn); simp_all; done))) | (exfalso; clear hr; (try clear hkn); simp_all; done)))) rfl)
def lz (L : TL) (b : Nat) : Nat → TL
  | 0 => L
  | k + 1 => va_up (lz L b k) 114 (va_up (lz L b k 114) (b + k) 0)
def tapeA (sz nz : Int32) : Prop := (-1 ≤ sz ∧ sz ≤ 4) ∧ (sz < 0 ∨ nz ≤ 60)
def tapeB (sz nz : Int32) : Prop := sz < 0 ∨ 0 ≤ nz
def tapeW (tz sz nz : Int32) : Prop := inr tz 6 ∧ tapeA sz nz ∧ tapeB sz nz
set_option maxRecDepth 100000 in
set_option maxHeartbeats 400000 in
theorem c_X9_tape {g : Gl} {I : Ty} {L : TL} {na nt ni m : Nat} {nl : Nat → Nat} (tz : Int32) (sz : Int32) (nz : Int32)  : Ct g yX9_tape cX9_tape 5 (some .int) 3 0 0 [.ref (g.1 + 65), .int tz, .int sz, .int nz] I L (RT na nt ni) (NT nl) (NB + m) (Ps (some (.int (ifc (inr tz 6) (ifc (tapeA sz nz) (ifc (tapeB sz nz) 1 (-14)) (-2)) (-1)))) (ifc (tapeW tz sz nz) (wr (wr I 112 (tn tz) sz) 113 (tn tz) (ifc (sz < 0) 0 nz)) I) (ifc (tapeW tz sz nz) (lz L (60 * tn tz) 60) L) (RT na nt ni) (NT nl) (NB + m)) := by
  refine ct_of (by decide +kernel) (Nat.le_of_ble_eq_true rfl) (fun F hnm hr => ?_)
  clear hnm
  show V g F cX9_tape RX9 5 3 0 [(0, .ref (g.1 + 65)), (1, .int tz), (2, .int sz), (3, .int nz)] [] I L (RT na nt ni) (NT nl) (NB + m) 0 0
  refine v_aload_n dX9_tape_0 rfl 0 rfl ?_
  refine v_iload_n dX9_tape_1 rfl 1 rfl ?_
  refine v_callVi (As := [.int tz]) (rest := []) lk_X9_410 (c_X9_isTape tz) dX9_tape_2 rfl (ltn rfl) rfl rfl (Nat.le_of_ble_eq_true rfl) (by decide) ?_
  refine v_ifb_ne (tgt := 10) dX9_tape_5 (by decide) (fun h1 => ?_) (fun h1 => ?_)
  · -- inr tz 6
    obtain ⟨P2, rfl, l3, t4, u5⟩ := inr_ex h1 (by omega)
    refine v_aload_n dX9_tape_10 rfl 0 rfl ?_
    refine v_iload_n dX9_tape_11 rfl 2 rfl ?_
    refine v_iconst (v := (-1)) dX9_tape_12 (by decide) ?_
    refine v_iconst (v := 4) dX9_tape_13 (by decide) ?_
    refine v_callVi (As := [.int sz, .int (-1), .int 4]) (rest := []) lk_X9_237 (c_X9_in sz (-1) 4) dX9_tape_14 rfl (ltn rfl) rfl rfl (Nat.le_of_ble_eq_true rfl) (by decide) ?_
    refine v_ifb_eq (tgt := 30) dX9_tape_17 (by decide) (fun h6 => ?_) (fun h6 => ?_)
    · -- not ((-1) ≤ sz ∧ sz ≤ 4)
      refine v_bipush (v := (-2)) dX9_tape_30 (by decide) ?_
      exact v_iret hr dX9_tape_32 (⟨congrArg (fun z => some (Value.int z)) (by rw [ifc_t h1, ifc_f (fun q => h6 q.1)]), (by rw [ifc_f (fun q => h6 q.2.1.1)]), (by rw [ifc_f (fun q => h6 q.2.1.1)]), rfl, rfl, rfl⟩)
    · -- ((-1) ≤ sz ∧ sz ≤ 4)
      refine v_iload_n dX9_tape_20 rfl 2 rfl ?_
      refine v_if_lt (tgt := 33) dX9_tape_21 (by decide) (fun h8 => ?_) (fun h8 => ?_)
      · refine v_iload_n dX9_tape_33 rfl 2 rfl ?_
        refine v_if_lt (tgt := 44) dX9_tape_34 (by decide) (fun _ => ?_) (fun q => absurd h8 q)
        refine v_aload_n dX9_tape_44 rfl 0 rfl ?_
        refine v_get (v := .ref (g.1 + 112)) fa_X9_220 dX9_tape_45 rfl (by decide) (ltn rfl) rfl ?_
        refine v_iload_n dX9_tape_48 rfl 1 rfl ?_
        refine v_iload_n dX9_tape_49 rfl 2 rfl ?_
        refine v_iastore (len := 6) (j := P2) dX9_tape_50 rfl (ltn rfl) rfl (by decide) rfl (by omega) ?_
        refine v_aload_n dX9_tape_51 rfl 0 rfl ?_
        refine v_get (v := .ref (g.1 + 113)) fa_X9_223 dX9_tape_52 rfl (by decide) (ltn rfl) rfl ?_
        refine v_iload_n dX9_tape_55 rfl 1 rfl ?_
        refine v_iload_n dX9_tape_56 rfl 2 rfl ?_
        refine v_if_ge (tgt := 64) dX9_tape_57 (by decide) (fun q => absurd h8 (Int32.not_lt.mpr q)) (fun _ => ?_)
        refine v_iconst (v := 0) dX9_tape_60 (by decide) ?_
        refine v_goto (tgt := 65) dX9_tape_61 (by decide) ?_
        refine v_iastore (len := 6) (j := P2) dX9_tape_65 rfl (ltn rfl) rfl (by decide) rfl (by omega) ?_
        refine v_iconst (v := 0) dX9_tape_66 (by decide) ?_
        refine v_istore (lv2 := [(4, .int 0), (0, .ref (g.1 + 65)), (1, .int (nI P2)), (2, .int sz), (3, .int nz)]) dX9_tape_67 (by decide) rfl ?_
        refine v_lv (lv2 := [(4, .int (nI 0)), (0, .ref (g.1 + 65)), (1, .int (nI P2)), (2, .int sz), (3, .int nz)]) (by rfl) ?_
        refine v_L (L2 := (lz L (60 * P2) 0)) (by rfl) ?_
        refine dloop (P := fun i => V g F cX9_tape RX9 5 3 69 [(4, .int (nI i)), (0, .ref (g.1 + 65)), (1, .int (nI P2)), (2, .int sz), (3, .int nz)] [] (wr (wr I 112 P2 sz) 113 P2 0) (lz L (60 * P2) i) (RT na nt ni) (NT nl) (NB + m) 0 0) 60 ?_ ?_ 0 (Nat.zero_le _)
        · refine v_iload dX9_tape_69 0 rfl ?_
          refine v_bipush (v := 60) dX9_tape_71 (by decide) ?_
          refine v_icmp_geN (a := 60) (b := 60) (tgt := 95) dX9_tape_73 (by decide) rfl rfl (by omega) (by omega) (fun h11 => ?_) (fun h => by exfalso; omega)
          refine v_iconst (v := 1) dX9_tape_95 (by decide) ?_
          exact v_iret hr dX9_tape_96 (⟨congrArg (fun z => some (Value.int z)) (by rw [ifc_t h1, ifc_t ⟨h6, Or.inl h8⟩, ifc_t (show tapeB sz nz from Or.inl h8)]), (by rw [ifc_t ⟨h1, ⟨h6, Or.inl h8⟩, (show tapeB sz nz from Or.inl h8)⟩, t4, ifc_t h8]), (by rw [ifc_t ⟨h1, ⟨h6, Or.inl h8⟩, (show tapeB sz nz from Or.inl h8)⟩, t4]), rfl, rfl, rfl⟩)
        · intro i hi ih
          refine v_iload dX9_tape_69 0 rfl ?_
          refine v_bipush (v := 60) dX9_tape_71 (by decide) ?_
          refine v_icmp_geN (a := i) (b := 60) (tgt := 95) dX9_tape_73 (by decide) rfl rfl (by omega) (by omega) (fun h => by exfalso; omega) (fun h12 => ?_)
          refine v_aload_n dX9_tape_76 rfl 1 rfl ?_
          refine v_get (v := .ref (g.1 + 114)) fa_X9_226 dX9_tape_77 rfl (by decide) (ltn rfl) rfl ?_
          refine v_bipush (v := 60) dX9_tape_80 (by decide) ?_
          refine v_iload_n dX9_tape_82 rfl 2 rfl ?_
          refine v_imul dX9_tape_83 ?_
          refine v_is (nx_mul rfl rfl) ?_
          refine v_iload dX9_tape_84 0 rfl ?_
          refine v_iadd dX9_tape_86 ?_
          refine v_is (nx_add rfl rfl) ?_
          refine v_lconst (v := 0) dX9_tape_87 rfl ?_
          refine v_lastore (len := 360) (j := ((60 * P2) + i)) dX9_tape_88 rfl (ltn rfl) rfl (by decide) rfl (by omega) ?_
          refine v_inc (v := nI (i + 1)) (lv2 := [(4, .int (nI (i + 1))), (0, .ref (g.1 + 65)), (1, .int (nI P2)), (2, .int sz), (3, .int nz)]) dX9_tape_89 0 rfl (nx_inc rfl) (by decide) rfl ?_
          refine v_goto (tgt := 69) dX9_tape_92 (by decide) ?_
          refine v_L (L2 := (lz L (60 * P2) (i + 1))) (by rfl) ?_
          exact ih
      · refine v_iload_n dX9_tape_24 rfl 3 rfl ?_
        refine v_bipush (v := 60) dX9_tape_25 (by decide) ?_
        refine v_icmp_le (tgt := 33) dX9_tape_27 (by decide) (fun h14 => ?_) (fun h14 => ?_)
        · refine v_iload_n dX9_tape_33 rfl 2 rfl ?_
          refine v_if_lt (tgt := 44) dX9_tape_34 (by decide) (fun q => absurd q h8) (fun _ => ?_)
          refine v_iload_n dX9_tape_37 rfl 3 rfl ?_
          refine v_if_ge (tgt := 44) dX9_tape_38 (by decide) (fun h17 => ?_) (fun h17 => ?_)
          · refine v_aload_n dX9_tape_44 rfl 0 rfl ?_
            refine v_get (v := .ref (g.1 + 112)) fa_X9_220 dX9_tape_45 rfl (by decide) (ltn rfl) rfl ?_
            refine v_iload_n dX9_tape_48 rfl 1 rfl ?_
            refine v_iload_n dX9_tape_49 rfl 2 rfl ?_
            refine v_iastore (len := 6) (j := P2) dX9_tape_50 rfl (ltn rfl) rfl (by decide) rfl (by omega) ?_
            refine v_aload_n dX9_tape_51 rfl 0 rfl ?_
            refine v_get (v := .ref (g.1 + 113)) fa_X9_223 dX9_tape_52 rfl (by decide) (ltn rfl) rfl ?_
            refine v_iload_n dX9_tape_55 rfl 1 rfl ?_
            refine v_iload_n dX9_tape_56 rfl 2 rfl ?_
            refine v_if_ge (tgt := 64) dX9_tape_57 (by decide) (fun _ => ?_) (fun q => absurd (Int32.not_lt.mp h8) q)
            refine v_iload_n dX9_tape_64 rfl 3 rfl ?_
            refine v_iastore (len := 6) (j := P2) dX9_tape_65 rfl (ltn rfl) rfl (by decide) rfl (by omega) ?_
            refine v_iconst (v := 0) dX9_tape_66 (by decide) ?_
            refine v_istore (lv2 := [(4, .int 0), (0, .ref (g.1 + 65)), (1, .int (nI P2)), (2, .int sz), (3, .int nz)]) dX9_tape_67 (by decide) rfl ?_
            refine v_lv (lv2 := [(4, .int (nI 0)), (0, .ref (g.1 + 65)), (1, .int (nI P2)), (2, .int sz), (3, .int nz)]) (by rfl) ?_
            refine v_L (L2 := (lz L (60 * P2) 0)) (by rfl) ?_
            refine dloop (P := fun i => V g F cX9_tape RX9 5 3 69 [(4, .int (nI i)), (0, .ref (g.1 + 65)), (1, .int (nI P2)), (2, .int sz), (3, .int nz)] [] (wr (wr I 112 P2 sz) 113 P2 nz) (lz L (60 * P2) i) (RT na nt ni) (NT nl) (NB + m) 0 0) 60 ?_ ?_ 0 (Nat.zero_le _)
            · refine v_iload dX9_tape_69 0 rfl ?_
              refine v_bipush (v := 60) dX9_tape_71 (by decide) ?_
              refine v_icmp_geN (a := 60) (b := 60) (tgt := 95) dX9_tape_73 (by decide) rfl rfl (by omega) (by omega) (fun h19 => ?_) (fun h => by exfalso; omega)
              refine v_iconst (v := 1) dX9_tape_95 (by decide) ?_
              exact v_iret hr dX9_tape_96 (⟨congrArg (fun z => some (Value.int z)) (by rw [ifc_t h1, ifc_t ⟨h6, Or.inr h14⟩, ifc_t (show tapeB sz nz from Or.inr h17)]), (by rw [ifc_t ⟨h1, ⟨h6, Or.inr h14⟩, (show tapeB sz nz from Or.inr h17)⟩, t4, ifc_f h8]), (by rw [ifc_t ⟨h1, ⟨h6, Or.inr h14⟩, (show tapeB sz nz from Or.inr h17)⟩, t4]), rfl, rfl, rfl⟩)
            · intro i hi ih
              refine v_iload dX9_tape_69 0 rfl ?_
              refine v_bipush (v := 60) dX9_tape_71 (by decide) ?_
              refine v_icmp_geN (a := i) (b := 60) (tgt := 95) dX9_tape_73 (by decide) rfl rfl (by omega) (by omega) (fun h => by exfalso; omega) (fun h20 => ?_)
              refine v_aload_n dX9_tape_76 rfl 1 rfl ?_
              refine v_get (v := .ref (g.1 + 114)) fa_X9_226 dX9_tape_77 rfl (by decide) (ltn rfl) rfl ?_
              refine v_bipush (v := 60) dX9_tape_80 (by decide) ?_
              refine v_iload_n dX9_tape_82 rfl 2 rfl ?_
              refine v_imul dX9_tape_83 ?_
              refine v_is (nx_mul rfl rfl) ?_
              refine v_iload dX9_tape_84 0 rfl ?_
              refine v_iadd dX9_tape_86 ?_
              refine v_is (nx_add rfl rfl) ?_
              refine v_lconst (v := 0) dX9_tape_87 rfl ?_
              refine v_lastore (len := 360) (j := ((60 * P2) + i)) dX9_tape_88 rfl (ltn rfl) rfl (by decide) rfl (by omega) ?_
              refine v_inc (v := nI (i + 1)) (lv2 := [(4, .int (nI (i + 1))), (0, .ref (g.1 + 65)), (1, .int (nI P2)), (2, .int sz), (3, .int nz)]) dX9_tape_89 0 rfl (nx_inc rfl) (by decide) rfl ?_
              refine v_goto (tgt := 69) dX9_tape_92 (by decide) ?_
              refine v_L (L2 := (lz L (60 * P2) (i + 1))) (by rfl) ?_
              exact ih
          · refine v_bipush (v := (-14)) dX9_tape_41 (by decide) ?_
            exact v_iret hr dX9_tape_43 (⟨congrArg (fun z => some (Value.int z)) (by rw [ifc_t h1, ifc_t ⟨h6, Or.inr h14⟩, ifc_f (fun q => q.elim h8 h17)]), (by rw [ifc_f (fun q => q.2.2.elim h8 h17)]), (by rw [ifc_f (fun q => q.2.2.elim h8 h17)]), rfl, rfl, rfl⟩)
        · refine v_bipush (v := (-2)) dX9_tape_30 (by decide) ?_
          exact v_iret hr dX9_tape_32 (⟨congrArg (fun z => some (Value.int z)) (by rw [ifc_t h1, ifc_f (fun q => q.2.elim h8 h14)]), (by rw [ifc_f (fun q => q.2.1.2.elim h8 h14)]), (by rw [ifc_f (fun q => q.2.1.2.elim h8 h14)]), rfl, rfl, rfl⟩)
  · -- not inr tz 6
    refine v_iconst (v := (-1)) dX9_tape_8 (by decide) ?_
    exact v_iret hr dX9_tape_9 (⟨congrArg (fun z => some (Value.int z)) (by rw [ifc_f h1]), (by rw [ifc_f (fun q => h1 q.1)]), (by rw [ifc_f (fun q => h1 q.1)]), rfl, rfl, rfl⟩)
set_option maxRecDepth 100000 in
set_option maxHeartbeats 400000 in
theorem c_X9_item {g : Gl} {I : Ty} {L : TL} {na nt ni m : Nat} {nl : Nat → Nat} (tz : Int32) (iz : Int32) (zz : Int64) (hT : tapOK I) : Ct g yX9_item cX9_item 5 (some .int) 3 0 0 [.ref (g.1 + 65), .int tz, .int iz, .long zz] I L (RT na nt ni) (NT nl) (NB + m) (Ps (some (.int (ifc (inr tz 6) (ifc (I 112 (tn tz) < 0) (-11) (ifc (inr iz (tn (I 113 (tn tz)))) 1 (-13))) (-1)))) I (ifc (inr tz 6 ∧ ¬ I 112 (tn tz) < 0 ∧ inr iz (tn (I 113 (tn tz)))) (va_up L 114 (va_up (L 114) (60 * tn tz + tn iz) (narF (I 112 (tn tz)) zz))) L) (RT na nt ni) (NT nl) (NB + m)) := by
  refine ct_of (by decide +kernel) (Nat.le_of_ble_eq_true rfl) (fun F hnm hr => ?_)
  clear hnm
  show V g F cX9_item RX9 5 3 0 [(0, .ref (g.1 + 65)), (1, .int tz), (2, .int iz), (3, .long zz)] [] I L (RT na nt ni) (NT nl) (NB + m) 0 0
  refine v_aload_n dX9_item_0 rfl 0 rfl ?_
  refine v_iload_n dX9_item_1 rfl 1 rfl ?_
  refine v_callVi (As := [.int tz]) (rest := []) lk_X9_410 (c_X9_isTape tz) dX9_item_2 rfl (ltn rfl) rfl rfl (Nat.le_of_ble_eq_true rfl) (by decide) ?_
  refine v_ifb_ne (tgt := 10) dX9_item_5 (by decide) (fun h1 => ?_) (fun h1 => ?_)
  · -- inr tz 6
    obtain ⟨P2, rfl, l3, t4, u5⟩ := inr_ex h1 (by omega)
    obtain ⟨ln, hln, hle⟩ := hT P2 l3
    have hle2 : tn (I 113 P2) = ln := by rw [hle, tn_nI (by omega)]
    refine v_aload_n dX9_item_10 rfl 0 rfl ?_
    refine v_get (v := .ref (g.1 + 112)) fa_X9_220 dX9_item_11 rfl (by decide) (ltn rfl) rfl ?_
    refine v_iload_n dX9_item_14 rfl 1 rfl ?_
    refine v_iaload (len := 6) (j := P2) dX9_item_15 rfl (ltn rfl) rfl (by decide) rfl (by omega) ?_
    refine v_if_ge (tgt := 22) dX9_item_16 (by decide) (fun h7 => ?_) (fun h7 => ?_)
    · have hsn := Int32.not_lt.mpr h7
      refine v_aload_n dX9_item_22 rfl 0 rfl ?_
      refine v_iload_n dX9_item_23 rfl 2 rfl ?_
      refine v_iconst (v := 0) dX9_item_24 (by decide) ?_
      refine v_aload_n dX9_item_25 rfl 0 rfl ?_
      refine v_get (v := .ref (g.1 + 113)) fa_X9_223 dX9_item_26 rfl (by decide) (ltn rfl) rfl ?_
      refine v_iload_n dX9_item_29 rfl 1 rfl ?_
      refine v_iaload (len := 6) (j := P2) dX9_item_30 rfl (ltn rfl) rfl (by decide) rfl (by omega) ?_
      refine v_is hle ?_
      refine v_iconst (v := 1) dX9_item_31 (by decide) ?_
      refine v_isub dX9_item_32 ?_
      refine v_callVi (As := [.int iz, .int 0, .int (nI ln - 1)]) (rest := []) lk_X9_237 (c_inp iz ln (by omega)) dX9_item_33 rfl (ltn rfl) rfl rfl (Nat.le_of_ble_eq_true rfl) (by decide) ?_
      refine v_ifb_ne (tgt := 42) dX9_item_36 (by decide) (fun h8 => ?_) (fun h8 => ?_)
      · -- inr iz ln
        obtain ⟨P9, rfl, l10, t11, u12⟩ := inr_ex h8 (by omega)
        refine v_aload_n dX9_item_42 rfl 0 rfl ?_
        refine v_get (v := .ref (g.1 + 114)) fa_X9_226 dX9_item_43 rfl (by decide) (ltn rfl) rfl ?_
        refine v_bipush (v := 60) dX9_item_46 (by decide) ?_
        refine v_iload_n dX9_item_48 rfl 1 rfl ?_
        refine v_imul dX9_item_49 ?_
        refine v_is (nx_mul rfl rfl) ?_
        refine v_iload_n dX9_item_50 rfl 2 rfl ?_
        refine v_iadd dX9_item_51 ?_
        refine v_is (nx_add rfl rfl) ?_
        refine v_aload_n dX9_item_52 rfl 0 rfl ?_
        refine v_aload_n dX9_item_53 rfl 0 rfl ?_
        refine v_get (v := .ref (g.1 + 112)) fa_X9_220 dX9_item_54 rfl (by decide) (ltn rfl) rfl ?_
        refine v_iload_n dX9_item_57 rfl 1 rfl ?_
        refine v_iaload (len := 6) (j := P2) dX9_item_58 rfl (ltn rfl) rfl (by decide) rfl (by omega) ?_
        refine v_lload_n dX9_item_59 rfl 3 rfl ?_
        refine v_callVl (As := [.int (I 112 P2), .long zz]) (rest := [.int (nI ((60 * P2) + P9)), .ref (g.1 + 114)]) lk_X9_437 (c_X9_narrow (I 112 P2) zz) dX9_item_60 rfl (ltn rfl) rfl rfl (Nat.le_of_ble_eq_true rfl) (by decide) ?_
        refine v_lastore (len := 360) (j := ((60 * P2) + P9)) dX9_item_63 rfl (ltn rfl) rfl (by decide) rfl (by omega) ?_
        refine v_iconst (v := 1) dX9_item_64 (by decide) ?_
        exact v_iret hr dX9_item_65 (⟨congrArg (fun z => some (Value.int z)) (by rw [ifc_t h1, t4, ifc_f hsn, hle2, ifc_t h8]), rfl, (by rw [t4, t11, hle2, ifc_t ⟨h1, hsn, h8⟩]), rfl, rfl, rfl⟩)
      · -- not inr iz ln
        refine v_bipush (v := (-13)) dX9_item_39 (by decide) ?_
        exact v_iret hr dX9_item_41 (⟨congrArg (fun z => some (Value.int z)) (by rw [ifc_t h1, t4, ifc_f hsn, hle2, ifc_f h8]), rfl, (by rw [t4, hle2, ifc_f (fun q => h8 q.2.2)]), rfl, rfl, rfl⟩)
    · refine v_bipush (v := (-11)) dX9_item_19 (by decide) ?_
      exact v_iret hr dX9_item_21 (⟨congrArg (fun z => some (Value.int z)) (by rw [ifc_t h1, t4, ifc_t (Int32.not_le.mp h7)]), rfl, (by rw [t4, ifc_f (fun q => q.2.1 (Int32.not_le.mp h7))]), rfl, rfl, rfl⟩)
  · -- not inr tz 6
    refine v_iconst (v := (-1)) dX9_item_8 (by decide) ?_
    exact v_iret hr dX9_item_9 (⟨congrArg (fun z => some (Value.int z)) (by rw [ifc_f h1]), rfl, (by rw [ifc_f (fun q => h1 q.1)]), rfl, rfl, rfl⟩)
set_option maxRecDepth 100000 in
set_option maxHeartbeats 400000 in
theorem c_X9_read {g : Gl} {I : Ty} {L : TL} {na nt ni m : Nat} {nl : Nat → Nat} (tz : Int32) (iz : Int32) (hT : tapOK I) : Ct g yX9_read cX9_read 3 (some .long) 3 0 0 [.ref (g.1 + 65), .int tz, .int iz] I L (RT na nt ni) (NT nl) (NB + m) (Ps (some (.long (ifc (inr tz 6 ∧ ¬ I 112 (tn tz) < 0 ∧ inr iz (tn (I 113 (tn tz)))) (L 114 (60 * tn tz + tn iz)) (-9223372036854775808)))) (I) L (RT na nt ni) (NT nl) (NB + m)) := by
  refine ct_of (by decide +kernel) (Nat.le_of_ble_eq_true rfl) (fun F hnm hr => ?_)
  clear hnm
  show V g F cX9_read RX9 3 3 0 [(0, .ref (g.1 + 65)), (1, .int tz), (2, .int iz)] [] I L (RT na nt ni) (NT nl) (NB + m) 0 0
  refine v_aload_n dX9_read_0 rfl 0 rfl ?_
  refine v_iload_n dX9_read_1 rfl 1 rfl ?_
  refine v_callVi (As := [.int tz]) (rest := []) lk_X9_410 (c_X9_isTape tz) dX9_read_2 rfl (ltn rfl) rfl rfl (Nat.le_of_ble_eq_true rfl) (by decide) ?_
  refine v_ifb_eq (tgt := 34) dX9_read_5 (by decide) (fun h1 => ?_) (fun h1 => ?_)
  · -- not inr tz 6
    refine v_ldc2 dX9_read_34 uc_X9_401 ?_
    refine v_goto (tgt := 51) dX9_read_37 (by decide) ?_
    exact v_lret hr dX9_read_51 (⟨congrArg (fun z => some (Value.long z)) (by rw [ifc_f (fun q => h1 q.1)]), rfl, rfl, rfl, rfl, rfl⟩)
  · -- inr tz 6
    obtain ⟨P2, rfl, l3, t4, u5⟩ := inr_ex h1 (by omega)
    obtain ⟨ln, hln, hle⟩ := hT P2 l3
    have hle2 : tn (I 113 P2) = ln := by rw [hle, tn_nI (by omega)]
    refine v_aload_n dX9_read_8 rfl 0 rfl ?_
    refine v_get (v := .ref (g.1 + 112)) fa_X9_220 dX9_read_9 rfl (by decide) (ltn rfl) rfl ?_
    refine v_iload_n dX9_read_12 rfl 1 rfl ?_
    refine v_iaload (len := 6) (j := P2) dX9_read_13 rfl (ltn rfl) rfl (by decide) rfl (by omega) ?_
    refine v_if_lt (tgt := 34) dX9_read_14 (by decide) (fun h7 => ?_) (fun h7 => ?_)
    · refine v_ldc2 dX9_read_34 uc_X9_401 ?_
      refine v_goto (tgt := 51) dX9_read_37 (by decide) ?_
      exact v_lret hr dX9_read_51 (⟨congrArg (fun z => some (Value.long z)) (by rw [t4, ifc_f (fun q => q.2.1 h7)]), rfl, rfl, rfl, rfl, rfl⟩)
    · refine v_aload_n dX9_read_17 rfl 0 rfl ?_
      refine v_iload_n dX9_read_18 rfl 2 rfl ?_
      refine v_iconst (v := 0) dX9_read_19 (by decide) ?_
      refine v_aload_n dX9_read_20 rfl 0 rfl ?_
      refine v_get (v := .ref (g.1 + 113)) fa_X9_223 dX9_read_21 rfl (by decide) (ltn rfl) rfl ?_
      refine v_iload_n dX9_read_24 rfl 1 rfl ?_
      refine v_iaload (len := 6) (j := P2) dX9_read_25 rfl (ltn rfl) rfl (by decide) rfl (by omega) ?_
      refine v_is hle ?_
      refine v_iconst (v := 1) dX9_read_26 (by decide) ?_
      refine v_isub dX9_read_27 ?_
      refine v_callVi (As := [.int iz, .int 0, .int (nI ln - 1)]) (rest := []) lk_X9_237 (c_inp iz ln (by omega)) dX9_read_28 rfl (ltn rfl) rfl rfl (Nat.le_of_ble_eq_true rfl) (by decide) ?_
      refine v_ifb_ne (tgt := 40) dX9_read_31 (by decide) (fun h8 => ?_) (fun h8 => ?_)
      · -- inr iz ln
        obtain ⟨P9, rfl, l10, t11, u12⟩ := inr_ex h8 (by omega)
        refine v_aload_n dX9_read_40 rfl 0 rfl ?_
        refine v_get (v := .ref (g.1 + 114)) fa_X9_226 dX9_read_41 rfl (by decide) (ltn rfl) rfl ?_
        refine v_bipush (v := 60) dX9_read_44 (by decide) ?_
        refine v_iload_n dX9_read_46 rfl 1 rfl ?_
        refine v_imul dX9_read_47 ?_
        refine v_is (nx_mul rfl rfl) ?_
        refine v_iload_n dX9_read_48 rfl 2 rfl ?_
        refine v_iadd dX9_read_49 ?_
        refine v_is (nx_add rfl rfl) ?_
        refine v_laload (len := 360) (j := ((60 * P2) + P9)) dX9_read_50 rfl (ltn rfl) rfl (by decide) rfl (by omega) ?_
        exact v_lret hr dX9_read_51 (⟨congrArg (fun z => some (Value.long z)) (by rw [t4, t11, hle2, ifc_t ⟨h1, h7, h8⟩]), rfl, rfl, rfl, rfl, rfl⟩)
      · -- not inr iz ln
        refine v_ldc2 dX9_read_34 uc_X9_401 ?_
        refine v_goto (tgt := 51) dX9_read_37 (by decide) ?_
        exact v_lret hr dX9_read_51 (⟨congrArg (fun z => some (Value.long z)) (by rw [t4, hle2, ifc_f (fun q => h8 q.2.2)]), rfl, rfl, rfl, rfl, rfl⟩)
