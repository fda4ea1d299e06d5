/-- the heap but for the two rows that every asking may use -/
def scr (I : Ty) (f h : Nat → Int32) : Ty := va_up (va_up I 83 f) 84 h
theorem scr_83 (I : Ty) (f h f2 : Nat → Int32) : va_up (scr I f h) 83 f2 = scr I f2 h := by
  funext j; unfold scr va_up
  by_cases h1 : j = 83
  · subst h1; simp
  · by_cases h2 : j = 84
    · subst h2; simp
    · simp [h1, h2]
theorem scr_84 (I : Ty) (f h h2 : Nat → Int32) : va_up (scr I f h) 84 h2 = scr I f h2 := up_up _ _ _ _
theorem scr_scr (I : Ty) (f h f2 h2 : Nat → Int32) : scr (scr I f h) f2 h2 = scr I f2 h2 := by
  show va_up (va_up (scr I f h) 83 f2) 84 h2 = _
  rw [scr_83, scr_84]
theorem scr_self (I : Ty) : I = scr I (I 83) (I 84) := by
  unfold scr
  rw [up_self, up_self]
theorem scr_off (I : Ty) (f h : Nat → Int32) (a : Nat) (h1 : a ≠ 83) (h2 : a ≠ 84) : scr I f h a = I a := by
  unfold scr
  rw [up_off _ _ h2, up_off _ _ h1]
abbrev Pq (v0 : Option Value) (I0 : Ty) (L0 : TL) (R0 : TR) (N0 : TN) (n0 : Nat) : Post := fun v I L R N n => v = v0 ∧ (∃ f h, I = scr I0 f h) ∧ L = L0 ∧ R = R0 ∧ N = N0 ∧ n = n0
/-- a clause's number, if it holds -/
noncomputable def clv (wd nu fr to sg : Nat → Int32) (fx : Int32 → Int32) (k : Nat) : Int32 := ifc (1 < wd k) 0 (ifc (hv fx (fun i => sg (tn (fr k) + i)) (tn (to k) - tn (fr k)) = 0) 0 (ifc (wd k = 0) (nu k) (-(nu k))))
noncomputable def csum (wd nu fr to sg : Nat → Int32) (fx : Int32 → Int32) (g : Int32) (k0 : Nat) : Nat → Int32
  | 0 => g
  | j + 1 => csum wd nu fr to sg fx g k0 j + clv wd nu fr to sg fx (k0 + j)
noncomputable def fdv (wd nu : Nat → Int32) (k0 : Nat) : Nat → Int32
  | 0 => 0
  | j + 1 => ifc (wd (k0 + j) = 2) (nu (k0 + j)) (fdv wd nu k0 j)
def clOK (wd fr to sg : Nat → Int32) (k : Nat) : Prop := ¬ 1 < wd k → ∃ a b, fr k = nI a ∧ to k = nI b ∧ a ≤ b ∧ b ≤ 600 ∧ b ≤ a + 100 ∧ tkOK (fun i => sg (a + i)) (b - a)
/-- nation tk stands whole -/
def naOK (I : Ty) (tk : Nat) : Prop := ∃ ck, ck ≤ 10 ∧ I 75 tk = nI ck ∧ ∀ j, j < ck → clOK (I 76) (I 78) (I 79) (I 80) (10 * tk + j)
/-- what holds now: none, or a whole nation -/
def mOK (I : Ty) : Prop := I 65 11 = -1 ∨ ∃ tk, tk < 6 ∧ I 65 11 = nI tk ∧ naOK I tk
noncomputable def msum (I : Ty) (fx : Int32 → Int32) (g : Int32) : Int32 := ifc (I 65 11 = -1) g (csum (I 76) (I 77) (I 78) (I 79) (I 80) fx g (10 * tn (I 65 11)) (tn (I 75 (tn (I 65 11)))))
noncomputable def mfade (I : Ty) : Int32 := ifc (I 65 11 = -1) 0 (fdv (I 76) (I 77) (10 * tn (I 65 11)) (tn (I 75 (tn (I 65 11)))))
theorem mOK_scr {I : Ty} {f h : Nat → Int32} (H : mOK I) : mOK (scr I f h) := H
theorem nI_ne1 {k : Nat} (h : k < 2 ^ 31) : ¬ nI k = -1 := fun e => by
  have h1 := congrArg Int32.toInt e
  rw [nI_toInt h] at h1
  have h2 : (-1 : Int32).toInt = -1 := by decide
  omega
set_option maxRecDepth 100000 in
set_option maxHeartbeats 2000000 in
theorem c_sumN {g : Gl} {I : Ty} {L : TL} {na nt ni m : Nat} {nl : Nat → Nat} (p : Nat) (c : Nat) (hp : p < 6) (hc : c < 16) (tk ck : Nat) (htk : tk < 6) (hte : I 65 11 = nI tk) (hck : ck ≤ 10) (hce : I 75 tk = nI ck) (hcl : ∀ j, j < ck → clOK (I 76) (I 78) (I 79) (I 80) (10 * tk + j)) : Ct g yX9_sum cX9_sum 5 (some .int) 2 0 0 [.ref (g.1 + 65), .int (nI p), .int (nI c)] I L (RT na nt ni) (NT nl) (NB + m) (Pq (some (.int (msum I (fctM I p c) (I 66 c)))) I L (RT na nt ni) (NT nl) (NB + m)) := by
  refine ct_of (by decide +kernel) (Nat.le_of_ble_eq_true rfl) (fun F hnm hr => ?_)
  clear hnm
  show V g F cX9_sum RX9 5 2 0 [(0, .ref (g.1 + 65)), (1, .int (nI p)), (2, .int (nI c))] [] I L (RT na nt ni) (NT nl) (NB + m) 0 0
  refine v_aload_n dX9_sum_0 rfl 0 rfl ?_
  refine v_get (v := .ref (g.1 + 66)) fa_X9_16 dX9_sum_1 rfl (by decide) (ltn rfl) rfl ?_
  refine v_iload_n dX9_sum_4 rfl 2 rfl ?_
  refine v_iaload (len := 16) (j := c) dX9_sum_5 rfl (ltn rfl) rfl (by decide) rfl (by omega) ?_
  refine v_istore_n (lv2 := [(3, .int (I 66 c)), (0, .ref (g.1 + 65)), (1, .int (nI p)), (2, .int (nI c))]) dX9_sum_6 rfl (by decide) rfl ?_
  refine v_aload_n dX9_sum_7 rfl 1 rfl ?_
  refine v_callVi (As := []) (rest := []) lk_X9_295 (c_begN tk htk hte) dX9_sum_8 rfl (ltn rfl) rfl rfl (Nat.le_of_ble_eq_true rfl) (by decide) ?_
  refine v_istore (lv2 := [(4, .int (nI (10 * tk))), (3, .int (I 66 c)), (0, .ref (g.1 + 65)), (1, .int (nI p)), (2, .int (nI c))]) dX9_sum_11 (by decide) rfl ?_
  refine v_lv (lv2 := [(4, .int (nI (10 * tk + 0))), (3, .int (csum (I 76) (I 77) (I 78) (I 79) (I 80) (fctM I p c) (I 66 c) (10 * tk) 0)), (0, .ref (g.1 + 65)), (1, .int (nI p)), (2, .int (nI c))]) (by rfl) ?_
  refine v_I (I2 := (scr I (I 83) (I 84))) (by exact scr_self I) ?_
  refine dloop (P := fun i => ∀ (fq : Nat → Int32), V g F cX9_sum RX9 5 2 13 [(4, .int (nI (10 * tk + i))), (3, .int (csum (I 76) (I 77) (I 78) (I 79) (I 80) (fctM I p c) (I 66 c) (10 * tk) i)), (0, .ref (g.1 + 65)), (1, .int (nI p)), (2, .int (nI c))] [] (scr I fq (I 84)) L (RT na nt ni) (NT nl) (NB + m) 0 0) ck ?_ ?_ 0 (Nat.zero_le _) (I 83)
  · intro fq
    refine v_iload dX9_sum_13 0 rfl ?_
    refine v_aload_n dX9_sum_15 rfl 2 rfl ?_
    refine v_callVi (As := []) (rest := [.int (nI (10 * tk + ck))]) lk_X9_298 (c_behN (I := (scr I fq (I 84))) tk ck htk hte hck hce) dX9_sum_16 rfl (ltn rfl) rfl rfl (Nat.le_of_ble_eq_true rfl) (by decide) ?_
    refine v_icmp_geN (a := (10 * tk + ck)) (b := (10 * tk + ck)) (tgt := 84) dX9_sum_19 (by decide) rfl rfl (by omega) (by omega) (fun h1 => ?_) (fun h => by exfalso; omega)
    refine v_iload_n dX9_sum_84 rfl 1 rfl ?_
    exact v_iret hr dX9_sum_85 (⟨by rw [msum, ifc_f (by rw [hte]; exact nI_ne1 (by omega)), hte, tn_nI (by omega), hce, tn_nI (by omega)], ⟨fq, I 84, rfl⟩, rfl, rfl, rfl, rfl⟩)
  · intro i hi ih
    intro fq
    refine v_iload dX9_sum_13 0 rfl ?_
    refine v_aload_n dX9_sum_15 rfl 2 rfl ?_
    refine v_callVi (As := []) (rest := [.int (nI (10 * tk + i))]) lk_X9_298 (c_behN (I := (scr I fq (I 84))) tk ck htk hte hck hce) dX9_sum_16 rfl (ltn rfl) rfl rfl (Nat.le_of_ble_eq_true rfl) (by decide) ?_
    refine v_icmp_geN (a := (10 * tk + i)) (b := (10 * tk + ck)) (tgt := 84) dX9_sum_19 (by decide) rfl rfl (by omega) (by omega) (fun h => by exfalso; omega) (fun h2 => ?_)
    refine v_aload_n dX9_sum_22 rfl 2 rfl ?_
    refine v_get (v := .ref (g.1 + 76)) fa_X9_62 dX9_sum_23 rfl (by decide) (ltn rfl) rfl ?_
    refine v_iload dX9_sum_26 0 rfl ?_
    refine v_iaload (len := 60) (j := (10 * tk + i)) dX9_sum_28 rfl (ltn rfl) rfl (by decide) rfl (by omega) ?_
    refine v_is (y := I 76 (10 * tk + i)) (by rfl) ?_
    refine v_iconst (v := 1) dX9_sum_29 (by decide) ?_
    refine v_icmp_gt (tgt := 78) dX9_sum_30 (by decide) (fun h3 => ?_) (fun h3 => ?_)
    · -- I 76 (10 * tk + i) gt 1
      refine v_inc (v := nI ((10 * tk + i) + 1)) (lv2 := [(4, .int (nI ((10 * tk + i) + 1))), (3, .int (csum (I 76) (I 77) (I 78) (I 79) (I 80) (fctM I p c) (I 66 c) (10 * tk) i)), (0, .ref (g.1 + 65)), (1, .int (nI p)), (2, .int (nI c))]) dX9_sum_78 0 rfl (nx_inc rfl) (by decide) rfl ?_
      refine v_goto (tgt := 13) dX9_sum_81 (by decide) ?_
      refine v_lv (lv2 := [(4, .int (nI (10 * tk + (i + 1)))), (3, .int (csum (I 76) (I 77) (I 78) (I 79) (I 80) (fctM I p c) (I 66 c) (10 * tk) (i + 1))), (0, .ref (g.1 + 65)), (1, .int (nI p)), (2, .int (nI c))]) (by first | rfl | (simp [csum, clv, Nat.add_assoc, ifc_T, ifc_F, h3]; done) | (simp [csum, clv, Nat.add_assoc, ifc_T, ifc_F, ha, hb, tna, tnb, h3]; done)) ?_
      exact ih _
    · -- I 76 (10 * tk + i) le 1
      obtain ⟨a, b, ha, hb, hab, hb6, hba, htk2⟩ := hcl i hi h3
      have tna : tn (nI a) = a := tn_nI (by omega)
      have tnb : tn (nI b) = b := tn_nI (by omega)
      refine v_aload_n dX9_sum_33 rfl 2 rfl ?_
      refine v_iload dX9_sum_34 0 rfl ?_
      refine v_iload_n dX9_sum_36 rfl 3 rfl ?_
      refine v_iload_n dX9_sum_37 rfl 4 rfl ?_
      refine v_callVi (As := [.int (nI (10 * tk + i)), .int (nI p), .int (nI c)]) (rest := []) lk_X9_305 (c_X9_holds (I := (scr I fq (I 84))) (10 * tk + i) p c a b (fun i => I 80 (a + i)) (by omega) hp hc ha hb hab hb6 hba (fun _ _ => rfl) htk2) dX9_sum_38 rfl (ltn rfl) rfl rfl (Nat.le_of_ble_eq_true rfl) (by decide) ?_
      refine v_I (scr_83 _ _ _ _) ?_
      refine v_is (y := hv (fctM I p c) (fun i => I 80 (a + i)) (b - a)) rfl ?_
      refine v_if_ne (tgt := 47) dX9_sum_41 (by decide) (fun h4 => ?_) (fun h4 => ?_)
      · -- hv (fctM I p c) (fun i => I 80 (a + i)) (b - a) ne 0
        refine v_iload_n dX9_sum_47 rfl 1 rfl ?_
        refine v_aload_n dX9_sum_48 rfl 2 rfl ?_
        refine v_get (v := .ref (g.1 + 76)) fa_X9_62 dX9_sum_49 rfl (by decide) (ltn rfl) rfl ?_
        refine v_iload dX9_sum_52 0 rfl ?_
        refine v_iaload (len := 60) (j := (10 * tk + i)) dX9_sum_54 rfl (ltn rfl) rfl (by decide) rfl (by omega) ?_
        refine v_is (y := I 76 (10 * tk + i)) (by rfl) ?_
        refine v_if_ne (tgt := 68) dX9_sum_55 (by decide) (fun h5 => ?_) (fun h5 => ?_)
        · -- I 76 (10 * tk + i) ne 0
          refine v_aload_n dX9_sum_68 rfl 2 rfl ?_
          refine v_get (v := .ref (g.1 + 77)) fa_X9_65 dX9_sum_69 rfl (by decide) (ltn rfl) rfl ?_
          refine v_iload dX9_sum_72 0 rfl ?_
          refine v_iaload (len := 60) (j := (10 * tk + i)) dX9_sum_74 rfl (ltn rfl) rfl (by decide) rfl (by omega) ?_
          refine v_is (y := I 77 (10 * tk + i)) (by rfl) ?_
          refine v_ineg dX9_sum_75 ?_
          refine v_iadd dX9_sum_76 ?_
          refine v_istore_n (lv2 := [(3, .int ((csum (I 76) (I 77) (I 78) (I 79) (I 80) (fctM I p c) (I 66 c) (10 * tk) i) + (-I 77 (10 * tk + i)))), (4, .int (nI (10 * tk + i))), (0, .ref (g.1 + 65)), (1, .int (nI p)), (2, .int (nI c))]) dX9_sum_77 rfl (by decide) rfl ?_
          refine v_inc (v := nI ((10 * tk + i) + 1)) (lv2 := [(4, .int (nI ((10 * tk + i) + 1))), (3, .int ((csum (I 76) (I 77) (I 78) (I 79) (I 80) (fctM I p c) (I 66 c) (10 * tk) i) + (-I 77 (10 * tk + i)))), (0, .ref (g.1 + 65)), (1, .int (nI p)), (2, .int (nI c))]) dX9_sum_78 1 rfl (nx_inc rfl) (by decide) rfl ?_
          refine v_goto (tgt := 13) dX9_sum_81 (by decide) ?_
          refine v_lv (lv2 := [(4, .int (nI (10 * tk + (i + 1)))), (3, .int (csum (I 76) (I 77) (I 78) (I 79) (I 80) (fctM I p c) (I 66 c) (10 * tk) (i + 1))), (0, .ref (g.1 + 65)), (1, .int (nI p)), (2, .int (nI c))]) (by first | rfl | (simp [csum, clv, Nat.add_assoc, ifc_T, ifc_F, h3, h4, h5]; done) | (simp [csum, clv, Nat.add_assoc, ifc_T, ifc_F, ha, hb, tna, tnb, h3, h4, h5]; done)) ?_
          exact ih _
        · -- I 76 (10 * tk + i) eq 0
          refine v_aload_n dX9_sum_58 rfl 2 rfl ?_
          refine v_get (v := .ref (g.1 + 77)) fa_X9_65 dX9_sum_59 rfl (by decide) (ltn rfl) rfl ?_
          refine v_iload dX9_sum_62 0 rfl ?_
          refine v_iaload (len := 60) (j := (10 * tk + i)) dX9_sum_64 rfl (ltn rfl) rfl (by decide) rfl (by omega) ?_
          refine v_is (y := I 77 (10 * tk + i)) (by rfl) ?_
          refine v_goto (tgt := 76) dX9_sum_65 (by decide) ?_
          refine v_iadd dX9_sum_76 ?_
          refine v_istore_n (lv2 := [(3, .int ((csum (I 76) (I 77) (I 78) (I 79) (I 80) (fctM I p c) (I 66 c) (10 * tk) i) + I 77 (10 * tk + i))), (4, .int (nI (10 * tk + i))), (0, .ref (g.1 + 65)), (1, .int (nI p)), (2, .int (nI c))]) dX9_sum_77 rfl (by decide) rfl ?_
          refine v_inc (v := nI ((10 * tk + i) + 1)) (lv2 := [(4, .int (nI ((10 * tk + i) + 1))), (3, .int ((csum (I 76) (I 77) (I 78) (I 79) (I 80) (fctM I p c) (I 66 c) (10 * tk) i) + I 77 (10 * tk + i))), (0, .ref (g.1 + 65)), (1, .int (nI p)), (2, .int (nI c))]) dX9_sum_78 1 rfl (nx_inc rfl) (by decide) rfl ?_
          refine v_goto (tgt := 13) dX9_sum_81 (by decide) ?_
          refine v_lv (lv2 := [(4, .int (nI (10 * tk + (i + 1)))), (3, .int (csum (I 76) (I 77) (I 78) (I 79) (I 80) (fctM I p c) (I 66 c) (10 * tk) (i + 1))), (0, .ref (g.1 + 65)), (1, .int (nI p)), (2, .int (nI c))]) (by first | rfl | (simp [csum, clv, Nat.add_assoc, ifc_T, ifc_F, h3, h4, h5]; done) | (simp [csum, clv, Nat.add_assoc, ifc_T, ifc_F, ha, hb, tna, tnb, h3, h4, h5]; done)) ?_
          exact ih _
      · -- hv (fctM I p c) (fun i => I 80 (a + i)) (b - a) eq 0
        refine v_goto (tgt := 78) dX9_sum_44 (by decide) ?_
        refine v_inc (v := nI ((10 * tk + i) + 1)) (lv2 := [(4, .int (nI ((10 * tk + i) + 1))), (3, .int (csum (I 76) (I 77) (I 78) (I 79) (I 80) (fctM I p c) (I 66 c) (10 * tk) i)), (0, .ref (g.1 + 65)), (1, .int (nI p)), (2, .int (nI c))]) dX9_sum_78 0 rfl (nx_inc rfl) (by decide) rfl ?_
        refine v_goto (tgt := 13) dX9_sum_81 (by decide) ?_
        refine v_lv (lv2 := [(4, .int (nI (10 * tk + (i + 1)))), (3, .int (csum (I 76) (I 77) (I 78) (I 79) (I 80) (fctM I p c) (I 66 c) (10 * tk) (i + 1))), (0, .ref (g.1 + 65)), (1, .int (nI p)), (2, .int (nI c))]) (by first | rfl | (simp [csum, clv, Nat.add_assoc, ifc_T, ifc_F, h3, h4]; done) | (simp [csum, clv, Nat.add_assoc, ifc_T, ifc_F, ha, hb, tna, tnb, h3, h4]; done)) ?_
        exact ih _
set_option maxRecDepth 100000 in
set_option maxHeartbeats 400000 in
theorem c_sumZ {g : Gl} {I : Ty} {L : TL} {na nt ni m : Nat} {nl : Nat → Nat} (p : Nat) (c : Nat) (hp : p < 6) (hc : c < 16) (hte : I 65 11 = -1) : Ct g yX9_sum cX9_sum 5 (some .int) 2 0 0 [.ref (g.1 + 65), .int (nI p), .int (nI c)] I L (RT na nt ni) (NT nl) (NB + m) (Pq (some (.int (msum I (fctM I p c) (I 66 c)))) I L (RT na nt ni) (NT nl) (NB + m)) := by
  refine ct_of (by decide +kernel) (Nat.le_of_ble_eq_true rfl) (fun F hnm hr => ?_)
  clear hnm
  show V g F cX9_sum RX9 5 2 0 [(0, .ref (g.1 + 65)), (1, .int (nI p)), (2, .int (nI c))] [] I L (RT na nt ni) (NT nl) (NB + m) 0 0
  refine v_aload_n dX9_sum_0 rfl 0 rfl ?_
  refine v_get (v := .ref (g.1 + 66)) fa_X9_16 dX9_sum_1 rfl (by decide) (ltn rfl) rfl ?_
  refine v_iload_n dX9_sum_4 rfl 2 rfl ?_
  refine v_iaload (len := 16) (j := c) dX9_sum_5 rfl (ltn rfl) rfl (by decide) rfl (by omega) ?_
  refine v_istore_n (lv2 := [(3, .int (I 66 c)), (0, .ref (g.1 + 65)), (1, .int (nI p)), (2, .int (nI c))]) dX9_sum_6 rfl (by decide) rfl ?_
  refine v_aload_n dX9_sum_7 rfl 1 rfl ?_
  refine v_callVi (As := []) (rest := []) lk_X9_295 (c_begZ hte) dX9_sum_8 rfl (ltn rfl) rfl rfl (Nat.le_of_ble_eq_true rfl) (by decide) ?_
  refine v_istore (lv2 := [(4, .int 0), (3, .int (I 66 c)), (0, .ref (g.1 + 65)), (1, .int (nI p)), (2, .int (nI c))]) dX9_sum_11 (by decide) rfl ?_
  refine v_iload dX9_sum_13 0 rfl ?_
  refine v_aload_n dX9_sum_15 rfl 2 rfl ?_
  refine v_callVi (As := []) (rest := [.int 0]) lk_X9_298 (c_behZ hte) dX9_sum_16 rfl (ltn rfl) rfl rfl (Nat.le_of_ble_eq_true rfl) (by decide) ?_
  refine v_icmp_ge (tgt := 84) dX9_sum_19 (by decide) (fun _ => ?_) (fun h1 => by first | exact absurd h1 (by decide) | exact absurd (by decide) h1)
  refine v_iload_n dX9_sum_84 rfl 1 rfl ?_
  exact v_iret hr dX9_sum_85 (⟨by rw [msum, ifc_t hte], ⟨I 83, I 84, scr_self I⟩, rfl, rfl, rfl, rfl⟩)
theorem c_X9_sum {g : Gl} {I : Ty} {L : TL} {na nt ni m : Nat} {nl : Nat → Nat} (p c : Nat) (hp : p < 6) (hc : c < 16) (H : mOK I) : Ct g yX9_sum cX9_sum 5 (some .int) 2 0 0 [.ref (g.1 + 65), .int (nI p), .int (nI c)] I L (RT na nt ni) (NT nl) (NB + m) (Pq (some (.int (msum I (fctM I p c) (I 66 c)))) I L (RT na nt ni) (NT nl) (NB + m)) := by
  rcases H with h | ⟨tk, htk, hte, ck, hck, hce, hcl⟩
  · exact c_sumZ p c hp hc h
  · exact c_sumN p c hp hc tk ck htk hte hck hce hcl
set_option maxRecDepth 100000 in
set_option maxHeartbeats 400000 in
theorem c_fadeN {g : Gl} {I : Ty} {L : TL} {na nt ni m : Nat} {nl : Nat → Nat}  (tk ck : Nat) (htk : tk < 6) (hte : I 65 11 = nI tk) (hck : ck ≤ 10) (hce : I 75 tk = nI ck) : Ct g yX9_fade cX9_fade 3 (some .int) 1 0 0 [.ref (g.1 + 65)] I L (RT na nt ni) (NT nl) (NB + m) (Ps (some (.int (mfade I))) (I) L (RT na nt ni) (NT nl) (NB + m)) := by
  refine ct_of (by decide +kernel) (Nat.le_of_ble_eq_true rfl) (fun F hnm hr => ?_)
  clear hnm
  show V g F cX9_fade RX9 3 1 0 [(0, .ref (g.1 + 65))] [] I L (RT na nt ni) (NT nl) (NB + m) 0 0
  refine v_iconst (v := 0) dX9_fade_0 (by decide) ?_
  refine v_istore_n (lv2 := [(1, .int 0), (0, .ref (g.1 + 65))]) dX9_fade_1 rfl (by decide) rfl ?_
  refine v_aload_n dX9_fade_2 rfl 1 rfl ?_
  refine v_callVi (As := []) (rest := []) lk_X9_295 (c_begN tk htk hte) dX9_fade_3 rfl (ltn rfl) rfl rfl (Nat.le_of_ble_eq_true rfl) (by decide) ?_
  refine v_istore_n (lv2 := [(2, .int (nI (10 * tk))), (1, .int 0), (0, .ref (g.1 + 65))]) dX9_fade_6 rfl (by decide) rfl ?_
  refine v_lv (lv2 := [(2, .int (nI (10 * tk + 0))), (1, .int (fdv (I 76) (I 77) (10 * tk) 0)), (0, .ref (g.1 + 65))]) (by rfl) ?_
  refine dloop (P := fun i => V g F cX9_fade RX9 3 1 7 [(2, .int (nI (10 * tk + i))), (1, .int (fdv (I 76) (I 77) (10 * tk) i)), (0, .ref (g.1 + 65))] [] I L (RT na nt ni) (NT nl) (NB + m) 0 0) ck ?_ ?_ 0 (Nat.zero_le _)
  · refine v_iload_n dX9_fade_7 rfl 0 rfl ?_
    refine v_aload_n dX9_fade_8 rfl 2 rfl ?_
    refine v_callVi (As := []) (rest := [.int (nI (10 * tk + ck))]) lk_X9_298 (c_behN tk ck htk hte hck hce) dX9_fade_9 rfl (ltn rfl) rfl rfl (Nat.le_of_ble_eq_true rfl) (by decide) ?_
    refine v_icmp_geN (a := (10 * tk + ck)) (b := (10 * tk + ck)) (tgt := 42) dX9_fade_12 (by decide) rfl rfl (by omega) (by omega) (fun h1 => ?_) (fun h => by exfalso; omega)
    refine v_iload_n dX9_fade_42 rfl 1 rfl ?_
    exact v_iret hr dX9_fade_43 (psi (by rw [mfade, ifc_f (by rw [hte]; exact nI_ne1 (by omega)), hte, tn_nI (by omega), hce, tn_nI (by omega)]) rfl)
  · intro i hi ih
    refine v_iload_n dX9_fade_7 rfl 0 rfl ?_
    refine v_aload_n dX9_fade_8 rfl 2 rfl ?_
    refine v_callVi (As := []) (rest := [.int (nI (10 * tk + i))]) lk_X9_298 (c_behN tk ck htk hte hck hce) dX9_fade_9 rfl (ltn rfl) rfl rfl (Nat.le_of_ble_eq_true rfl) (by decide) ?_
    refine v_icmp_geN (a := (10 * tk + i)) (b := (10 * tk + ck)) (tgt := 42) dX9_fade_12 (by decide) rfl rfl (by omega) (by omega) (fun h => by exfalso; omega) (fun h2 => ?_)
    refine v_aload_n dX9_fade_15 rfl 2 rfl ?_
    refine v_get (v := .ref (g.1 + 76)) fa_X9_62 dX9_fade_16 rfl (by decide) (ltn rfl) rfl ?_
    refine v_iload_n dX9_fade_19 rfl 0 rfl ?_
    refine v_iaload (len := 60) (j := (10 * tk + i)) dX9_fade_20 rfl (ltn rfl) rfl (by decide) rfl (by omega) ?_
    refine v_iconst (v := 2) dX9_fade_21 (by decide) ?_
    refine v_icmp_ne (tgt := 34) dX9_fade_22 (by decide) (fun h3 => ?_) (fun h3 => ?_)
    · -- I 76 (10 * tk + i) ne 2
      refine v_iload_n dX9_fade_34 rfl 1 rfl ?_
      refine v_istore_n (lv2 := [(1, .int (fdv (I 76) (I 77) (10 * tk) i)), (2, .int (nI (10 * tk + i))), (0, .ref (g.1 + 65))]) dX9_fade_35 rfl (by decide) rfl ?_
      refine v_inc (v := nI ((10 * tk + i) + 1)) (lv2 := [(2, .int (nI ((10 * tk + i) + 1))), (1, .int (fdv (I 76) (I 77) (10 * tk) i)), (0, .ref (g.1 + 65))]) dX9_fade_36 1 rfl (nx_inc rfl) (by decide) rfl ?_
      refine v_goto (tgt := 7) dX9_fade_39 (by decide) ?_
      refine v_lv (lv2 := [(2, .int (nI (10 * tk + (i + 1)))), (1, .int (fdv (I 76) (I 77) (10 * tk) (i + 1))), (0, .ref (g.1 + 65))]) (by simp [fdv, Nat.add_assoc, ifc_T, ifc_F, h3]) ?_
      exact ih
    · -- I 76 (10 * tk + i) eq 2
      refine v_aload_n dX9_fade_25 rfl 2 rfl ?_
      refine v_get (v := .ref (g.1 + 77)) fa_X9_65 dX9_fade_26 rfl (by decide) (ltn rfl) rfl ?_
      refine v_iload_n dX9_fade_29 rfl 0 rfl ?_
      refine v_iaload (len := 60) (j := (10 * tk + i)) dX9_fade_30 rfl (ltn rfl) rfl (by decide) rfl (by omega) ?_
      refine v_goto (tgt := 35) dX9_fade_31 (by decide) ?_
      refine v_istore_n (lv2 := [(1, .int (I 77 (10 * tk + i))), (2, .int (nI (10 * tk + i))), (0, .ref (g.1 + 65))]) dX9_fade_35 rfl (by decide) rfl ?_
      refine v_inc (v := nI ((10 * tk + i) + 1)) (lv2 := [(2, .int (nI ((10 * tk + i) + 1))), (1, .int (I 77 (10 * tk + i))), (0, .ref (g.1 + 65))]) dX9_fade_36 1 rfl (nx_inc rfl) (by decide) rfl ?_
      refine v_goto (tgt := 7) dX9_fade_39 (by decide) ?_
      refine v_lv (lv2 := [(2, .int (nI (10 * tk + (i + 1)))), (1, .int (fdv (I 76) (I 77) (10 * tk) (i + 1))), (0, .ref (g.1 + 65))]) (by simp [fdv, Nat.add_assoc, ifc_T, ifc_F, h3]) ?_
      exact ih
set_option maxRecDepth 100000 in
set_option maxHeartbeats 400000 in
theorem c_fadeZ {g : Gl} {I : Ty} {L : TL} {na nt ni m : Nat} {nl : Nat → Nat}  (hte : I 65 11 = -1) : Ct g yX9_fade cX9_fade 3 (some .int) 1 0 0 [.ref (g.1 + 65)] I L (RT na nt ni) (NT nl) (NB + m) (Ps (some (.int (mfade I))) (I) L (RT na nt ni) (NT nl) (NB + m)) := by
  refine ct_of (by decide +kernel) (Nat.le_of_ble_eq_true rfl) (fun F hnm hr => ?_)
  clear hnm
  show V g F cX9_fade RX9 3 1 0 [(0, .ref (g.1 + 65))] [] I L (RT na nt ni) (NT nl) (NB + m) 0 0
  refine v_iconst (v := 0) dX9_fade_0 (by decide) ?_
  refine v_istore_n (lv2 := [(1, .int 0), (0, .ref (g.1 + 65))]) dX9_fade_1 rfl (by decide) rfl ?_
  refine v_aload_n dX9_fade_2 rfl 1 rfl ?_
  refine v_callVi (As := []) (rest := []) lk_X9_295 (c_begZ hte) dX9_fade_3 rfl (ltn rfl) rfl rfl (Nat.le_of_ble_eq_true rfl) (by decide) ?_
  refine v_istore_n (lv2 := [(2, .int 0), (1, .int 0), (0, .ref (g.1 + 65))]) dX9_fade_6 rfl (by decide) rfl ?_
  refine v_iload_n dX9_fade_7 rfl 0 rfl ?_
  refine v_aload_n dX9_fade_8 rfl 2 rfl ?_
  refine v_callVi (As := []) (rest := [.int 0]) lk_X9_298 (c_behZ hte) dX9_fade_9 rfl (ltn rfl) rfl rfl (Nat.le_of_ble_eq_true rfl) (by decide) ?_
  refine v_icmp_ge (tgt := 42) dX9_fade_12 (by decide) (fun _ => ?_) (fun h1 => by first | exact absurd h1 (by decide) | exact absurd (by decide) h1)
  refine v_iload_n dX9_fade_42 rfl 1 rfl ?_
  exact v_iret hr dX9_fade_43 (psi (by rw [mfade, ifc_t hte]) rfl)
theorem c_X9_fade {g : Gl} {I : Ty} {L : TL} {na nt ni m : Nat} {nl : Nat → Nat} (H : mOK I) : Ct g yX9_fade cX9_fade 3 (some .int) 1 0 0 [.ref (g.1 + 65)] I L (RT na nt ni) (NT nl) (NB + m) (Ps (some (.int (mfade I))) (I) L (RT na nt ni) (NT nl) (NB + m)) := by
  rcases H with h | ⟨tk, htk, hte, ck, hck, hce, hcl⟩
  · exact c_fadeZ h
  · exact c_fadeN tk ck htk hte hck hce
