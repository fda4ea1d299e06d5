theorem rng {x lo hi : Int32} {a b : Nat} (h : lo ≤ x ∧ x ≤ hi) (ha : lo = nI a) (hb : hi = nI b) (hb2 : b < 2 ^ 31) (hab : a ≤ b) : x = nI (tn x) ∧ a ≤ tn x ∧ tn x ≤ b := by
  subst ha; subst hb
  have h1 := Int32.le_iff_toInt_le.mp h.1
  have h2 := Int32.le_iff_toInt_le.mp h.2
  rw [nI_toInt (by omega)] at h1 h2
  have h3 : 0 ≤ x.toInt := by omega
  have h4 := tn_int h3
  exact ⟨nI_tn h3, by omega, by omega⟩
/-- all of SEEN is so -/
def seenP (I : Ty) (pp sn : Nat) : Prop := ∀ k, k < sn → (hrN (I 66) (I 67) (I 68) (I 70) (I 73) pp (msum I) (mfade I) (lessM 2000000000) (mgetH I) (tn (I 90 k))).1.1 (tn (I 89 k)) = I 91 k
theorem sck_69 (I kp : Ty) (kh : Int32) (r : Nat → Int32) : va_up (sck I kp kh) 69 r = sck (va_up I 69 r) kp kh := by
  funext a; unfold sck
  by_cases h : a = 69
  · subst h; rfl
  · rw [up_off _ _ h, up_off _ _ h]
    by_cases h2 : a = 65
    · subst h2; rfl
    · rw [if_neg h2, if_neg h2]
theorem sck_68 (I kp : Ty) (kh : Int32) (r : Nat → Int32) : va_up (sck I kp kh) 68 r = sck (va_up I 68 r) kp kh := by
  funext a; unfold sck
  by_cases h : a = 68
  · subst h; rfl
  · rw [up_off _ _ h, up_off _ _ h]
    by_cases h2 : a = 65
    · subst h2; rfl
    · rw [if_neg h2, if_neg h2]
set_option maxRecDepth 100000 in
set_option maxHeartbeats 4000000 in
theorem c_X9_isSeen {g : Gl} {I : Ty} {L : TL} {na nt ni m : Nat} {nl : Nat → Nat}  (pp : Nat) (hpp : pp ≤ 6) (hpe : I 65 0 = nI pp) (hN : mOK I) (hS : okS (mget I)) (hG : okG (I 70)) (hM : I 65 29 = 9999) (sn : Nat) (hsn : sn ≤ 5) (hse : I 65 35 = nI sn) (hsw : ∀ k, k < sn → ∃ x, x < 6 ∧ I 89 k = nI x) (hst : ∀ k, k < sn → ∃ x, x ≤ 12 ∧ I 90 k = nI x) : Ct g yX9_isSeen cX9_isSeen 3 (some .boolean) 7 0 0 [.ref (g.1 + 65)] I L (RT na nt ni) (NT nl) (NB + m) (Pk (some (.int (bq (seenP I pp sn)))) (I) L (RT na nt ni) (NT nl) (NB + m)) := by
  refine ct_of (by decide +kernel) (Nat.le_of_ble_eq_true rfl) (fun F hnm hr => ?_)
  clear hnm
  show V g F cX9_isSeen RX9 3 7 0 [(0, .ref (g.1 + 65))] [] I L (RT na nt ni) (NT nl) (NB + m) 0 0
  refine v_iconst (v := 1) dX9_isSeen_0 (by decide) ?_
  refine v_istore_n (lv2 := [(1, .int 1), (0, .ref (g.1 + 65))]) dX9_isSeen_1 rfl (by decide) rfl ?_
  refine v_iconst (v := 0) dX9_isSeen_2 (by decide) ?_
  refine v_istore_n (lv2 := [(2, .int 0), (1, .int 1), (0, .ref (g.1 + 65))]) dX9_isSeen_3 rfl (by decide) rfl ?_
  refine v_lv (lv2 := [(2, .int (nI 0)), (1, .int 1), (0, .ref (g.1 + 65))]) (by rfl) ?_
  refine v_I (I2 := (sck I I (I 65 30))) (by exact sck_self I) ?_
  refine dloop (P := fun i => ∀ (kpq : Ty) (khq : Int32), (∀ j, j < i → (hrN (I 66) (I 67) (I 68) (I 70) (I 73) pp (msum I) (mfade I) (lessM 2000000000) (mgetH I) (tn (I 90 j))).1.1 (tn (I 89 j)) = I 91 j) → V g F cX9_isSeen RX9 3 7 4 [(2, .int (nI i)), (1, .int 1), (0, .ref (g.1 + 65))] [] (sck I kpq khq) L (RT na nt ni) (NT nl) (NB + m) 0 0) sn ?_ ?_ 0 (Nat.zero_le _) I (I 65 30) (fun j h => absurd h (Nat.not_lt_zero j))
  · intro kpq khq
    intro hinv
    refine v_iload_n dX9_isSeen_4 rfl 0 rfl ?_
    refine v_aload_n dX9_isSeen_5 rfl 2 rfl ?_
    refine v_get (v := .int ((sck I kpq khq) 65 35)) fa_X9_117 dX9_isSeen_6 rfl (by decide) (ltn rfl) rfl ?_
    refine v_is (y := I 65 35) (by rfl) ?_
    refine v_is hse ?_
    refine v_icmp_geN (a := sn) (b := sn) (tgt := 66) dX9_isSeen_9 (by decide) rfl rfl (by omega) (by omega) (fun h1 => ?_) (fun h => by exfalso; omega)
    refine v_iload_n dX9_isSeen_66 rfl 1 rfl ?_
    exact v_zret hr dX9_isSeen_67 (by first | rfl | exact nbq) (⟨by rw [bq_t (show seenP I pp sn from hinv)], ⟨_, _, rfl⟩, rfl, rfl, rfl, rfl⟩)
  · intro i hi ih
    intro kpq khq
    intro hinv
    obtain ⟨tz, htz, hte⟩ := hst i hi
    obtain ⟨uz, huz, hue⟩ := hsw i hi
    have htt : tn (I 90 i) = tz := by rw [hte, tn_nI (by omega)]
    have huu : tn (I 89 i) = uz := by rw [hue, tn_nI (by omega)]
    refine v_iload_n dX9_isSeen_4 rfl 0 rfl ?_
    refine v_aload_n dX9_isSeen_5 rfl 2 rfl ?_
    refine v_get (v := .int ((sck I kpq khq) 65 35)) fa_X9_117 dX9_isSeen_6 rfl (by decide) (ltn rfl) rfl ?_
    refine v_is (y := I 65 35) (by rfl) ?_
    refine v_is hse ?_
    refine v_icmp_geN (a := i) (b := sn) (tgt := 66) dX9_isSeen_9 (by decide) rfl rfl (by omega) (by omega) (fun h => by exfalso; omega) (fun h2 => ?_)
    refine v_iload_n dX9_isSeen_12 rfl 1 rfl ?_
    refine v_if_eq (tgt := 66) dX9_isSeen_13 (by decide) (fun h3 => by first | exact absurd h3 (by decide) | exact absurd (by decide) h3) (fun _ => ?_)
    refine v_aload_n dX9_isSeen_16 rfl 2 rfl ?_
    refine v_callVv (As := []) (rest := []) lk_X9_359 (c_X9_save (I := (sck I kpq khq))) dX9_isSeen_17 rfl (ltn rfl) rfl rfl (Nat.le_of_ble_eq_true rfl) (by decide) ?_
    refine v_aload_n dX9_isSeen_20 rfl 2 rfl ?_
    refine v_aload_n dX9_isSeen_21 rfl 2 rfl ?_
    refine v_get (v := .ref (g.1 + 90)) fa_X9_123 dX9_isSeen_22 rfl (by decide) (ltn rfl) rfl ?_
    refine v_iload_n dX9_isSeen_25 rfl 0 rfl ?_
    refine v_iaload (len := 5) (j := i) dX9_isSeen_26 rfl (ltn rfl) rfl (by decide) rfl (by omega) ?_
    refine v_is (y := I 90 i) (by rfl) ?_
    refine v_is (y := nI tz) hte ?_
    refine v_callVqv (As := [.int (nI tz)]) (rest := []) lk_X9_355 (c_X9_goHours (I := (svd (sck I kpq khq))) tz (by omega) pp hpp hpe hN hS hG) dX9_isSeen_27 rfl (ltn rfl) rfl rfl (Nat.le_of_ble_eq_true rfl) (by decide) (fun fq4 hq5 => ?_)
    refine v_I (I2 := (scr (mputH (svd (sck I kpq khq)) (hrN (I 66) (I 67) (I 68) (I 70) (I 73) pp (msum I) (mfade I) (lessM 2000000000) (mgetH I) tz)) fq4 hq5)) rfl ?_
    refine v_aload_n dX9_isSeen_30 rfl 2 rfl ?_
    refine v_get (v := .ref (g.1 + 69)) fa_X9_26 dX9_isSeen_31 rfl (by decide) (ltn rfl) rfl ?_
    refine v_aload_n dX9_isSeen_34 rfl 2 rfl ?_
    refine v_get (v := .ref (g.1 + 89)) fa_X9_120 dX9_isSeen_35 rfl (by decide) (ltn rfl) rfl ?_
    refine v_iload_n dX9_isSeen_38 rfl 0 rfl ?_
    refine v_iaload (len := 5) (j := i) dX9_isSeen_39 rfl (ltn rfl) rfl (by decide) rfl (by omega) ?_
    refine v_is (y := I 89 i) (by rfl) ?_
    refine v_is (y := nI uz) hue ?_
    refine v_iaload (len := 6) (j := uz) dX9_isSeen_40 rfl (ltn rfl) rfl (by decide) rfl (by omega) ?_
    refine v_is (y := (hrN (I 66) (I 67) (I 68) (I 70) (I 73) pp (msum I) (mfade I) (lessM 2000000000) (mgetH I) tz).1.1 uz) (by rfl) ?_
    refine v_aload_n dX9_isSeen_41 rfl 2 rfl ?_
    refine v_get (v := .ref (g.1 + 91)) fa_X9_126 dX9_isSeen_42 rfl (by decide) (ltn rfl) rfl ?_
    refine v_iload_n dX9_isSeen_45 rfl 0 rfl ?_
    refine v_iaload (len := 5) (j := i) dX9_isSeen_46 rfl (ltn rfl) rfl (by decide) rfl (by omega) ?_
    refine v_is (y := I 91 i) (by rfl) ?_
    refine v_icmp_ne (tgt := 54) dX9_isSeen_47 (by decide) (fun h6 => ?_) (fun h6 => ?_)
    · -- (hrN (I 66) (I 67) (I 68) (I 70) (I 73) pp (msum I) (mfade I) (lessM 2000000000) (mgetH I) tz).1.1 uz ne I 91 i
      refine v_iconst (v := 0) dX9_isSeen_54 (by decide) ?_
      refine v_istore_n (lv2 := [(1, .int 0), (2, .int (nI i)), (0, .ref (g.1 + 65))]) dX9_isSeen_55 rfl (by decide) rfl ?_
      refine v_aload_n dX9_isSeen_56 rfl 2 rfl ?_
      refine v_callVv (As := []) (rest := []) lk_X9_362 (c_X9_putBack (I := (scr (mputH (svd (sck I kpq khq)) (hrN (I 66) (I 67) (I 68) (I 70) (I 73) pp (msum I) (mfade I) (lessM 2000000000) (mgetH I) tz)) fq4 hq5))) dX9_isSeen_57 rfl (ltn rfl) rfl rfl (Nat.le_of_ble_eq_true rfl) (by decide) ?_
      refine v_I ((pb_trial (I := sck I kpq khq) hM _ _ _ (hrN_off hpp _)).trans (sck_sck _ _ _ _ _)) ?_
      refine v_inc (v := nI (i + 1)) (lv2 := [(2, .int (nI (i + 1))), (1, .int 0), (0, .ref (g.1 + 65))]) dX9_isSeen_60 1 rfl (nx_inc rfl) (by decide) rfl ?_
      refine v_goto (tgt := 4) dX9_isSeen_63 (by decide) ?_
      have hi1 : i + 1 ≤ sn := hi
      refine v_iload_n dX9_isSeen_4 rfl 0 rfl ?_
      refine v_aload_n dX9_isSeen_5 rfl 2 rfl ?_
      refine v_get (v := .int ((sck I _ _) 65 35)) fa_X9_117 dX9_isSeen_6 rfl (by decide) (ltn rfl) rfl ?_
      refine v_is (y := I 65 35) (by rfl) ?_
      refine v_is hse ?_
      refine v_icmp_geN (a := (i + 1)) (b := sn) (tgt := 66) dX9_isSeen_9 (by decide) rfl rfl (by omega) (by omega) (fun h7 => ?_) (fun h7 => ?_)
      · -- (i + 1) ge sn
        refine v_iload_n dX9_isSeen_66 rfl 1 rfl ?_
        exact v_zret hr dX9_isSeen_67 (by first | rfl | exact nbq) (⟨by rw [bq_f (fun z : seenP I pp sn => h6 (by have := z i hi; rw [htt, huu] at this; exact this))], ⟨_, _, rfl⟩, rfl, rfl, rfl, rfl⟩)
      · -- (i + 1) lt sn
        refine v_iload_n dX9_isSeen_12 rfl 1 rfl ?_
        refine v_if_eq (tgt := 66) dX9_isSeen_13 (by decide) (fun _ => ?_) (fun h8 => by first | exact absurd h8 (by decide) | exact absurd (by decide) h8)
        refine v_iload_n dX9_isSeen_66 rfl 1 rfl ?_
        exact v_zret hr dX9_isSeen_67 (by first | rfl | exact nbq) (⟨by rw [bq_f (fun z : seenP I pp sn => h6 (by have := z i hi; rw [htt, huu] at this; exact this))], ⟨_, _, rfl⟩, rfl, rfl, rfl, rfl⟩)
    · -- (hrN (I 66) (I 67) (I 68) (I 70) (I 73) pp (msum I) (mfade I) (lessM 2000000000) (mgetH I) tz).1.1 uz eq I 91 i
      refine v_iconst (v := 1) dX9_isSeen_50 (by decide) ?_
      refine v_goto (tgt := 55) dX9_isSeen_51 (by decide) ?_
      refine v_istore_n (lv2 := [(1, .int 1), (2, .int (nI i)), (0, .ref (g.1 + 65))]) dX9_isSeen_55 rfl (by decide) rfl ?_
      refine v_aload_n dX9_isSeen_56 rfl 2 rfl ?_
      refine v_callVv (As := []) (rest := []) lk_X9_362 (c_X9_putBack (I := (scr (mputH (svd (sck I kpq khq)) (hrN (I 66) (I 67) (I 68) (I 70) (I 73) pp (msum I) (mfade I) (lessM 2000000000) (mgetH I) tz)) fq4 hq5))) dX9_isSeen_57 rfl (ltn rfl) rfl rfl (Nat.le_of_ble_eq_true rfl) (by decide) ?_
      refine v_I ((pb_trial (I := sck I kpq khq) hM _ _ _ (hrN_off hpp _)).trans (sck_sck _ _ _ _ _)) ?_
      refine v_inc (v := nI (i + 1)) (lv2 := [(2, .int (nI (i + 1))), (1, .int 1), (0, .ref (g.1 + 65))]) dX9_isSeen_60 1 rfl (nx_inc rfl) (by decide) rfl ?_
      refine v_goto (tgt := 4) dX9_isSeen_63 (by decide) ?_
      exact ih _ _ (fun j hj => by by_cases e : j = i; (subst e; rw [htt, huu]; exact h6); (exact hinv j (by omega)))
