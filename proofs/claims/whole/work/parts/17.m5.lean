/-! tokens of a nation: how deep the pile is, what it holds -/
noncomputable def tkv (fx : Int32 → Int32) (t : Int32) : Int32 := ifc (t / 100 - t / 100 / 10 * 10 = 0) (bq (fx (t / 1000) < t - t / 100 * 100)) (ifc (t / 100 - t / 100 / 10 * 10 = 1) (bq (fx (t / 1000) = t - t / 100 * 100)) (bq (t - t / 100 * 100 < fx (t / 1000))))
noncomputable def dp (tok : Nat → Int32) : Nat → Nat
  | 0 => 0
  | i + 1 => ifc (tok i = -33) (dp tok i) (ifc (tok i < 0) (dp tok i - 1) (dp tok i + 1))
noncomputable def pstp (fx : Int32 → Int32) (t : Int32) (n : Nat) (f : Nat → Int32) : Nat → Int32 :=
  ifc (t = -33) (va_up f (n - 1) (bq (f (n - 1) = 0))) (ifc (t < 0) (va_up f (n - 1 - 1) (ifc (t = -38) (bq (¬ f (n - 1 - 1) = 0 ∧ ¬ f (n - 1) = 0)) (bq (¬ f (n - 1 - 1) = 0 ∨ ¬ f (n - 1) = 0)))) (va_up f n (tkv fx t)))
noncomputable def pst (fx : Int32 → Int32) (tok : Nat → Int32) (f0 : Nat → Int32) : Nat → (Nat → Int32)
  | 0 => f0
  | i + 1 => pstp fx (tok i) (dp tok i) (pst fx tok f0 i)
/-- so many tokens are a whole expression -/
def tkOK (tok : Nat → Int32) (len : Nat) : Prop := (∀ i, i < len → (tok i = -33 → 1 ≤ dp tok i) ∧ (¬ tok i = -33 → tok i < 0 → 2 ≤ dp tok i)) ∧ dp tok len = 1
theorem dp_le (tok : Nat → Int32) : ∀ i, dp tok i ≤ i
  | 0 => Nat.le_refl _
  | i + 1 => by
    have h := dp_le tok i
    show ifc (tok i = -33) (dp tok i) (ifc (tok i < 0) (dp tok i - 1) (dp tok i + 1)) ≤ i + 1
    by_cases h1 : tok i = -33
    · rw [ifc_t h1]; omega
    · rw [ifc_f h1]
      by_cases h2 : tok i < 0
      · rw [ifc_t h2]; omega
      · rw [ifc_f h2]; omega
theorem tkv_01 (fx : Int32 → Int32) (t : Int32) : ∃ P, tkv fx t = bq P := by
  unfold tkv
  by_cases h1 : t / 100 - t / 100 / 10 * 10 = 0
  · exact ⟨_, ifc_t h1⟩
  · rw [ifc_f h1]
    by_cases h2 : t / 100 - t / 100 / 10 * 10 = 1
    · exact ⟨_, ifc_t h2⟩
    · exact ⟨_, ifc_f h2⟩
/-- what lies on the pile below its depth is a truth, and doesn't rest on what lay there before -/
theorem pst_low (fx : Int32 → Int32) (tok : Nat → Int32) (len : Nat) (ok : ∀ i, i < len → (tok i = -33 → 1 ≤ dp tok i) ∧ (¬ tok i = -33 → tok i < 0 → 2 ≤ dp tok i)) (f g : Nat → Int32) : ∀ i, i ≤ len → ∀ j, j < dp tok i → pst fx tok f i j = pst fx tok g i j ∧ ∃ P, pst fx tok f i j = bq P := by
  intro i
  induction i with
  | zero => intro _ j h; exact absurd h (Nat.not_lt_zero j)
  | succ i ih =>
    intro hi j hj
    have ih := ih (by omega)
    have o := ok i (by omega)
    show pstp fx (tok i) (dp tok i) (pst fx tok f i) j = pstp fx (tok i) (dp tok i) (pst fx tok g i) j ∧ ∃ P, pstp fx (tok i) (dp tok i) (pst fx tok f i) j = bq P
    have hd : dp tok (i + 1) = ifc (tok i = -33) (dp tok i) (ifc (tok i < 0) (dp tok i - 1) (dp tok i + 1)) := rfl
    unfold pstp
    by_cases h1 : tok i = -33
    · rw [ifc_t h1] at hd
      rw [ifc_t h1, ifc_t h1]
      have n1 := o.1 h1
      by_cases e : j = dp tok i - 1
      · subst e
        rw [up_at, up_at, (ih (dp tok i - 1) (by omega)).1]
        exact ⟨rfl, _, rfl⟩
      · rw [up_off _ _ e, up_off _ _ e]
        exact ih j (by omega)
    · rw [ifc_f h1] at hd
      rw [ifc_f h1, ifc_f h1]
      by_cases h2 : tok i < 0
      · rw [ifc_t h2] at hd
        rw [ifc_t h2, ifc_t h2]
        have n2 := o.2 h1 h2
        by_cases e : j = dp tok i - 1 - 1
        · subst e
          rw [up_at, up_at, (ih (dp tok i - 1 - 1) (by omega)).1, (ih (dp tok i - 1) (by omega)).1]
          refine ⟨rfl, ?_⟩
          by_cases h3 : tok i = -38
          · exact ⟨_, ifc_t h3⟩
          · exact ⟨_, ifc_f h3⟩
        · rw [up_off _ _ e, up_off _ _ e]
          exact ih j (by omega)
      · rw [ifc_f h2] at hd
        rw [ifc_f h2, ifc_f h2]
        by_cases e : j = dp tok i
        · subst e
          rw [up_at, up_at]
          exact ⟨rfl, tkv_01 fx _⟩
        · rw [up_off _ _ e, up_off _ _ e]
          exact ih j (by omega)
/-- the truth of an expression -/
noncomputable def hv (fx : Int32 → Int32) (tok : Nat → Int32) (len : Nat) : Int32 := pst fx tok (fun _ => 0) len 0
theorem pst_hv {fx : Int32 → Int32} {tok : Nat → Int32} {len : Nat} (ok : tkOK tok len) (f : Nat → Int32) : pst fx tok f len 0 = hv fx tok len := (pst_low fx tok len ok.1 f _ len (Nat.le_refl _) 0 (by rw [ok.2]; decide)).1
theorem hv_bq {fx : Int32 → Int32} {tok : Nat → Int32} {len : Nat} (ok : tkOK tok len) : ∃ P, hv fx tok len = bq P := (pst_low fx tok len ok.1 _ (fun _ => 0) len (Nat.le_refl _) 0 (by rw [ok.2]; decide)).2
theorem fct_83 {I : Ty} {f : Nat → Int32} {p c : Nat} {t : Int32} : fctM (va_up I 83 f) p c t = fctM I p c t := rfl
set_option maxRecDepth 100000 in
set_option maxHeartbeats 2000000 in
theorem c_X9_holds {g : Gl} {I : Ty} {L : TL} {na nt ni m : Nat} {nl : Nat → Nat} (k0 : Nat) (p : Nat) (c : Nat) (a b : Nat) (tok : Nat → Int32) (hk : k0 < 60) (hp : p < 6) (hc : c < 16) (hfa : I 78 k0 = nI a) (htb : I 79 k0 = nI b) (hab : a ≤ b) (hb : b ≤ 600) (hba : b ≤ a + 100) (htok : ∀ i, i < b - a → I 80 (a + i) = tok i) (ok : tkOK tok (b - a)) : Ct g yX9_holds cX9_holds 9 (some .boolean) 1 0 0 [.ref (g.1 + 65), .int (nI k0), .int (nI p), .int (nI c)] I L (RT na nt ni) (NT nl) (NB + m) (Ps (some (.int (hv (fctM I p c) tok (b - a)))) (va_up I 83 (pst (fctM I p c) tok (I 83) (b - a))) L (RT na nt ni) (NT nl) (NB + m)) := by
  refine ct_of (by decide +kernel) (Nat.le_of_ble_eq_true rfl) (fun F hnm hr => ?_)
  clear hnm
  show V g F cX9_holds RX9 9 1 0 [(0, .ref (g.1 + 65)), (1, .int (nI k0)), (2, .int (nI p)), (3, .int (nI c))] [] I L (RT na nt ni) (NT nl) (NB + m) 0 0
  refine v_iconst (v := 0) dX9_holds_0 (by decide) ?_
  refine v_istore (lv2 := [(4, .int 0), (0, .ref (g.1 + 65)), (1, .int (nI k0)), (2, .int (nI p)), (3, .int (nI c))]) dX9_holds_1 (by decide) rfl ?_
  refine v_aload_n dX9_holds_3 rfl 1 rfl ?_
  refine v_get (v := .ref (g.1 + 78)) fa_X9_68 dX9_holds_4 rfl (by decide) (ltn rfl) rfl ?_
  refine v_iload_n dX9_holds_7 rfl 2 rfl ?_
  refine v_iaload (len := 60) (j := k0) dX9_holds_8 rfl (ltn rfl) rfl (by decide) rfl (by omega) ?_
  refine v_is hfa ?_
  refine v_istore (lv2 := [(5, .int (nI a)), (4, .int 0), (0, .ref (g.1 + 65)), (1, .int (nI k0)), (2, .int (nI p)), (3, .int (nI c))]) dX9_holds_9 (by decide) rfl ?_
  refine v_lv (lv2 := [(5, .int (nI (a + 0))), (4, .int (nI (dp tok 0))), (0, .ref (g.1 + 65)), (1, .int (nI k0)), (2, .int (nI p)), (3, .int (nI c))]) (by rfl) ?_
  refine v_I (I2 := (va_up I 83 (pst (fctM I p c) tok (I 83) 0))) (by exact (up_self I 83).symm) ?_
  refine dloop (P := fun i => V g F cX9_holds RX9 9 1 11 [(5, .int (nI (a + i))), (4, .int (nI (dp tok i))), (0, .ref (g.1 + 65)), (1, .int (nI k0)), (2, .int (nI p)), (3, .int (nI c))] [] (va_up I 83 (pst (fctM I p c) tok (I 83) i)) L (RT na nt ni) (NT nl) (NB + m) 0 0) (b - a) ?_ ?_ 0 (Nat.zero_le _)
  · have hab : a + (b - a) = b := by omega
    refine v_lv (lv2 := [(5, .int (nI b)), (4, .int (nI (dp tok (b - a)))), (0, .ref (g.1 + 65)), (1, .int (nI k0)), (2, .int (nI p)), (3, .int (nI c))]) (by rw [hab]) ?_
    refine v_iload dX9_holds_11 0 rfl ?_
    refine v_aload_n dX9_holds_13 rfl 2 rfl ?_
    refine v_get (v := .ref (g.1 + 79)) fa_X9_71 dX9_holds_14 rfl (by decide) (ltn rfl) rfl ?_
    refine v_iload_n dX9_holds_17 rfl 3 rfl ?_
    refine v_iaload (len := 60) (j := k0) dX9_holds_18 rfl (ltn rfl) rfl (by decide) rfl (by omega) ?_
    refine v_is (y := I 79 k0) (by rfl) ?_
    refine v_is htb ?_
    refine v_icmp_geN (a := b) (b := b) (tgt := 253) dX9_holds_19 (by decide) rfl rfl (by omega) (by omega) (fun h1 => ?_) (fun h => by exfalso; omega)
    refine v_aload_n dX9_holds_253 rfl 2 rfl ?_
    refine v_get (v := .ref (g.1 + 83)) fa_X9_92 dX9_holds_254 rfl (by decide) (ltn rfl) rfl ?_
    refine v_iconst (v := 0) dX9_holds_257 (by decide) ?_
    refine v_baload (len := 100) (j := 0) dX9_holds_258 rfl (ltn rfl) rfl (by decide) rfl (by omega) ?_
    refine v_is (y := (pst (fctM I p c) tok (I 83) (b - a)) 0) (by rfl) ?_
    exact v_zret hr dX9_holds_259 (by obtain ⟨P, e⟩ := hv_bq (fx := fctM I p c) ok; rw [pst_hv ok, e]; exact nbq) (psi (pst_hv ok _) rfl)
  · intro i hi ih
    have hok := ok.1 i hi
    have hdl := dp_le tok i
    refine v_iload dX9_holds_11 0 rfl ?_
    refine v_aload_n dX9_holds_13 rfl 2 rfl ?_
    refine v_get (v := .ref (g.1 + 79)) fa_X9_71 dX9_holds_14 rfl (by decide) (ltn rfl) rfl ?_
    refine v_iload_n dX9_holds_17 rfl 3 rfl ?_
    refine v_iaload (len := 60) (j := k0) dX9_holds_18 rfl (ltn rfl) rfl (by decide) rfl (by omega) ?_
    refine v_is (y := I 79 k0) (by rfl) ?_
    refine v_is htb ?_
    refine v_icmp_geN (a := (a + i)) (b := b) (tgt := 253) dX9_holds_19 (by decide) rfl rfl (by omega) (by omega) (fun h => by exfalso; omega) (fun h2 => ?_)
    refine v_aload_n dX9_holds_22 rfl 2 rfl ?_
    refine v_get (v := .ref (g.1 + 80)) fa_X9_74 dX9_holds_23 rfl (by decide) (ltn rfl) rfl ?_
    refine v_iload dX9_holds_26 0 rfl ?_
    refine v_iaload (len := 600) (j := (a + i)) dX9_holds_28 rfl (ltn rfl) rfl (by decide) rfl (by omega) ?_
    refine v_is (y := I 80 (a + i)) (by rfl) ?_
    refine v_is (y := (tok i)) (htok i hi) ?_
    refine v_istore (lv2 := [(6, .int (tok i)), (5, .int (nI (a + i))), (4, .int (nI (dp tok i))), (0, .ref (g.1 + 65)), (1, .int (nI k0)), (2, .int (nI p)), (3, .int (nI c))]) dX9_holds_29 (by decide) rfl ?_
    refine v_iload dX9_holds_31 0 rfl ?_
    refine v_bipush (v := (-33)) dX9_holds_33 (by decide) ?_
    refine v_icmp_ne (tgt := 67) dX9_holds_35 (by decide) (fun h4 => ?_) (fun h4 => ?_)
    · -- (tok i) ne (-33)
      refine v_iload dX9_holds_67 0 rfl ?_
      refine v_if_ge (tgt := 151) dX9_holds_69 (by decide) (fun h6 => ?_) (fun h6 => ?_)
      · have h6n := Int32.not_lt.mpr h6
        refine v_aload_n dX9_holds_151 rfl 3 rfl ?_
        refine v_iload dX9_holds_152 0 rfl ?_
        refine v_sipush (v := 1000) dX9_holds_154 (by decide) ?_
        refine v_idiv dX9_holds_157 (by decide) ?_
        refine v_iload_n dX9_holds_158 rfl 5 rfl ?_
        refine v_iload_n dX9_holds_159 rfl 6 rfl ?_
        refine v_callVi (As := [.int ((tok i) / 1000), .int (nI p), .int (nI c)]) (rest := []) lk_X9_301 (c_X9_factOf (I := (va_up I 83 (pst (fctM I p c) tok (I 83) i))) ((tok i) / 1000) p c (by omega) (by omega)) dX9_holds_160 rfl (ltn rfl) rfl rfl (Nat.le_of_ble_eq_true rfl) (by decide) ?_
        refine v_is fct_83 ?_
        refine v_istore (lv2 := [(7, .int (fctM I p c ((tok i) / 1000))), (6, .int (tok i)), (5, .int (nI (a + i))), (4, .int (nI (dp tok i))), (0, .ref (g.1 + 65)), (1, .int (nI k0)), (2, .int (nI p)), (3, .int (nI c))]) dX9_holds_163 (by decide) rfl ?_
        refine v_iload dX9_holds_165 1 rfl ?_
        refine v_bipush (v := 100) dX9_holds_167 (by decide) ?_
        refine v_idiv dX9_holds_169 (by decide) ?_
        refine v_bipush (v := 10) dX9_holds_170 (by decide) ?_
        refine v_irem dX9_holds_172 (by decide) ?_
        refine v_istore (lv2 := [(8, .int (((tok i) / 100) - ((tok i) / 100) / 10 * 10)), (7, .int (fctM I p c ((tok i) / 1000))), (6, .int (tok i)), (5, .int (nI (a + i))), (4, .int (nI (dp tok i))), (0, .ref (g.1 + 65)), (1, .int (nI k0)), (2, .int (nI p)), (3, .int (nI c))]) dX9_holds_173 (by decide) rfl ?_
        refine v_aload_n dX9_holds_175 rfl 5 rfl ?_
        refine v_get (v := .ref (g.1 + 83)) fa_X9_92 dX9_holds_176 rfl (by decide) (ltn rfl) rfl ?_
        refine v_iload dX9_holds_179 4 rfl ?_
        refine v_iload dX9_holds_181 0 rfl ?_
        refine v_if_ne (tgt := 204) dX9_holds_183 (by decide) (fun h7 => ?_) (fun h7 => ?_)
        · -- (((tok i) / 100) - ((tok i) / 100) / 10 * 10) ne 0
          refine v_iload dX9_holds_204 0 rfl ?_
          refine v_iconst (v := 1) dX9_holds_206 (by decide) ?_
          refine v_icmp_ne (tgt := 228) dX9_holds_207 (by decide) (fun h8 => ?_) (fun h8 => ?_)
          · -- (((tok i) / 100) - ((tok i) / 100) / 10 * 10) ne 1
            refine v_iload dX9_holds_228 1 rfl ?_
            refine v_iload dX9_holds_230 2 rfl ?_
            refine v_bipush (v := 100) dX9_holds_232 (by decide) ?_
            refine v_irem dX9_holds_234 (by decide) ?_
            refine v_icmp_le (tgt := 242) dX9_holds_235 (by decide) (fun h9 => ?_) (fun h9 => ?_)
            · -- (fctM I p c ((tok i) / 1000)) le ((tok i) - (tok i) / 100 * 100)
              have h9n := Int32.not_lt.mpr h9
              refine v_iconst (v := 0) dX9_holds_242 (by decide) ?_
              refine v_bastore (len := 100) (j := (dp tok i)) dX9_holds_243 rfl (ltn rfl) rfl (by decide) rfl (by omega) (by first | rfl | exact nbq) ?_
              refine v_inc (v := nI ((dp tok i) + 1)) (lv2 := [(4, .int (nI ((dp tok i) + 1))), (8, .int (((tok i) / 100) - ((tok i) / 100) / 10 * 10)), (7, .int (fctM I p c ((tok i) / 1000))), (6, .int (tok i)), (5, .int (nI (a + i))), (0, .ref (g.1 + 65)), (1, .int (nI k0)), (2, .int (nI p)), (3, .int (nI c))]) dX9_holds_244 4 rfl (nx_inc rfl) (by decide) rfl ?_
              refine v_inc (v := nI ((a + i) + 1)) (lv2 := [(5, .int (nI ((a + i) + 1))), (4, .int (nI ((dp tok i) + 1))), (8, .int (((tok i) / 100) - ((tok i) / 100) / 10 * 10)), (7, .int (fctM I p c ((tok i) / 1000))), (6, .int (tok i)), (0, .ref (g.1 + 65)), (1, .int (nI k0)), (2, .int (nI p)), (3, .int (nI c))]) dX9_holds_247 4 rfl (nx_inc rfl) (by decide) rfl ?_
              refine v_goto (tgt := 11) dX9_holds_250 (by decide) ?_
              refine v_sub (lv2 := [(5, .int (nI ((a + i) + 1))), (4, .int (nI ((dp tok i) + 1))), (0, .ref (g.1 + 65)), (1, .int (nI k0)), (2, .int (nI p)), (3, .int (nI c))]) [0, 1, 5, 6, 7, 8] rfl ?_
              refine v_lv (lv2 := [(5, .int (nI (a + (i + 1)))), (4, .int (nI (dp tok (i + 1)))), (0, .ref (g.1 + 65)), (1, .int (nI k0)), (2, .int (nI p)), (3, .int (nI c))]) (by first | rfl | (simp [wr, up_up, up_at, pst, pstp, dp, tkv, bq_T, bq_F, ifc_T, ifc_F, h4, h6n, h7, h8, h9, h9n]; done) | (rw [Nat.add_assoc]; simp [wr, up_up, up_at, pst, pstp, dp, tkv, bq_T, bq_F, ifc_T, ifc_F, h4, h6n, h7, h8, h9, h9n])) ?_
              refine v_I (I2 := (va_up I 83 (pst (fctM I p c) tok (I 83) (i + 1)))) (by simp [wr, up_up, up_at, pst, pstp, dp, tkv, bq_T, bq_F, ifc_T, ifc_F, h4, h6n, h7, h8, h9, h9n]) ?_
              exact ih
            · -- (fctM I p c ((tok i) / 1000)) gt ((tok i) - (tok i) / 100 * 100)
              have h9n := Int32.not_le.mp h9
              refine v_iconst (v := 1) dX9_holds_238 (by decide) ?_
              refine v_goto (tgt := 243) dX9_holds_239 (by decide) ?_
              refine v_bastore (len := 100) (j := (dp tok i)) dX9_holds_243 rfl (ltn rfl) rfl (by decide) rfl (by omega) (by first | rfl | exact nbq) ?_
              refine v_inc (v := nI ((dp tok i) + 1)) (lv2 := [(4, .int (nI ((dp tok i) + 1))), (8, .int (((tok i) / 100) - ((tok i) / 100) / 10 * 10)), (7, .int (fctM I p c ((tok i) / 1000))), (6, .int (tok i)), (5, .int (nI (a + i))), (0, .ref (g.1 + 65)), (1, .int (nI k0)), (2, .int (nI p)), (3, .int (nI c))]) dX9_holds_244 4 rfl (nx_inc rfl) (by decide) rfl ?_
              refine v_inc (v := nI ((a + i) + 1)) (lv2 := [(5, .int (nI ((a + i) + 1))), (4, .int (nI ((dp tok i) + 1))), (8, .int (((tok i) / 100) - ((tok i) / 100) / 10 * 10)), (7, .int (fctM I p c ((tok i) / 1000))), (6, .int (tok i)), (0, .ref (g.1 + 65)), (1, .int (nI k0)), (2, .int (nI p)), (3, .int (nI c))]) dX9_holds_247 4 rfl (nx_inc rfl) (by decide) rfl ?_
              refine v_goto (tgt := 11) dX9_holds_250 (by decide) ?_
              refine v_sub (lv2 := [(5, .int (nI ((a + i) + 1))), (4, .int (nI ((dp tok i) + 1))), (0, .ref (g.1 + 65)), (1, .int (nI k0)), (2, .int (nI p)), (3, .int (nI c))]) [0, 1, 5, 6, 7, 8] rfl ?_
              refine v_lv (lv2 := [(5, .int (nI (a + (i + 1)))), (4, .int (nI (dp tok (i + 1)))), (0, .ref (g.1 + 65)), (1, .int (nI k0)), (2, .int (nI p)), (3, .int (nI c))]) (by first | rfl | (simp [wr, up_up, up_at, pst, pstp, dp, tkv, bq_T, bq_F, ifc_T, ifc_F, h4, h6n, h7, h8, h9, h9n]; done) | (rw [Nat.add_assoc]; simp [wr, up_up, up_at, pst, pstp, dp, tkv, bq_T, bq_F, ifc_T, ifc_F, h4, h6n, h7, h8, h9, h9n])) ?_
              refine v_I (I2 := (va_up I 83 (pst (fctM I p c) tok (I 83) (i + 1)))) (by simp [wr, up_up, up_at, pst, pstp, dp, tkv, bq_T, bq_F, ifc_T, ifc_F, h4, h6n, h7, h8, h9, h9n]) ?_
              exact ih
          · -- (((tok i) / 100) - ((tok i) / 100) / 10 * 10) eq 1
            refine v_iload dX9_holds_210 1 rfl ?_
            refine v_iload dX9_holds_212 2 rfl ?_
            refine v_bipush (v := 100) dX9_holds_214 (by decide) ?_
            refine v_irem dX9_holds_216 (by decide) ?_
            refine v_icmp_ne (tgt := 224) dX9_holds_217 (by decide) (fun h10 => ?_) (fun h10 => ?_)
            · -- (fctM I p c ((tok i) / 1000)) ne ((tok i) - (tok i) / 100 * 100)
              refine v_iconst (v := 0) dX9_holds_224 (by decide) ?_
              refine v_goto (tgt := 243) dX9_holds_225 (by decide) ?_
              refine v_bastore (len := 100) (j := (dp tok i)) dX9_holds_243 rfl (ltn rfl) rfl (by decide) rfl (by omega) (by first | rfl | exact nbq) ?_
              refine v_inc (v := nI ((dp tok i) + 1)) (lv2 := [(4, .int (nI ((dp tok i) + 1))), (8, .int (((tok i) / 100) - ((tok i) / 100) / 10 * 10)), (7, .int (fctM I p c ((tok i) / 1000))), (6, .int (tok i)), (5, .int (nI (a + i))), (0, .ref (g.1 + 65)), (1, .int (nI k0)), (2, .int (nI p)), (3, .int (nI c))]) dX9_holds_244 4 rfl (nx_inc rfl) (by decide) rfl ?_
              refine v_inc (v := nI ((a + i) + 1)) (lv2 := [(5, .int (nI ((a + i) + 1))), (4, .int (nI ((dp tok i) + 1))), (8, .int (((tok i) / 100) - ((tok i) / 100) / 10 * 10)), (7, .int (fctM I p c ((tok i) / 1000))), (6, .int (tok i)), (0, .ref (g.1 + 65)), (1, .int (nI k0)), (2, .int (nI p)), (3, .int (nI c))]) dX9_holds_247 4 rfl (nx_inc rfl) (by decide) rfl ?_
              refine v_goto (tgt := 11) dX9_holds_250 (by decide) ?_
              refine v_sub (lv2 := [(5, .int (nI ((a + i) + 1))), (4, .int (nI ((dp tok i) + 1))), (0, .ref (g.1 + 65)), (1, .int (nI k0)), (2, .int (nI p)), (3, .int (nI c))]) [0, 1, 5, 6, 7, 8] rfl ?_
              refine v_lv (lv2 := [(5, .int (nI (a + (i + 1)))), (4, .int (nI (dp tok (i + 1)))), (0, .ref (g.1 + 65)), (1, .int (nI k0)), (2, .int (nI p)), (3, .int (nI c))]) (by first | rfl | (simp [wr, up_up, up_at, pst, pstp, dp, tkv, bq_T, bq_F, ifc_T, ifc_F, h4, h6n, h7, h8, h10]; done) | (rw [Nat.add_assoc]; simp [wr, up_up, up_at, pst, pstp, dp, tkv, bq_T, bq_F, ifc_T, ifc_F, h4, h6n, h7, h8, h10])) ?_
              refine v_I (I2 := (va_up I 83 (pst (fctM I p c) tok (I 83) (i + 1)))) (by simp [wr, up_up, up_at, pst, pstp, dp, tkv, bq_T, bq_F, ifc_T, ifc_F, h4, h6n, h7, h8, h10]) ?_
              exact ih
            · -- (fctM I p c ((tok i) / 1000)) eq ((tok i) - (tok i) / 100 * 100)
              refine v_iconst (v := 1) dX9_holds_220 (by decide) ?_
              refine v_goto (tgt := 243) dX9_holds_221 (by decide) ?_
              refine v_bastore (len := 100) (j := (dp tok i)) dX9_holds_243 rfl (ltn rfl) rfl (by decide) rfl (by omega) (by first | rfl | exact nbq) ?_
              refine v_inc (v := nI ((dp tok i) + 1)) (lv2 := [(4, .int (nI ((dp tok i) + 1))), (8, .int (((tok i) / 100) - ((tok i) / 100) / 10 * 10)), (7, .int (fctM I p c ((tok i) / 1000))), (6, .int (tok i)), (5, .int (nI (a + i))), (0, .ref (g.1 + 65)), (1, .int (nI k0)), (2, .int (nI p)), (3, .int (nI c))]) dX9_holds_244 4 rfl (nx_inc rfl) (by decide) rfl ?_
              refine v_inc (v := nI ((a + i) + 1)) (lv2 := [(5, .int (nI ((a + i) + 1))), (4, .int (nI ((dp tok i) + 1))), (8, .int (((tok i) / 100) - ((tok i) / 100) / 10 * 10)), (7, .int (fctM I p c ((tok i) / 1000))), (6, .int (tok i)), (0, .ref (g.1 + 65)), (1, .int (nI k0)), (2, .int (nI p)), (3, .int (nI c))]) dX9_holds_247 4 rfl (nx_inc rfl) (by decide) rfl ?_
              refine v_goto (tgt := 11) dX9_holds_250 (by decide) ?_
              refine v_sub (lv2 := [(5, .int (nI ((a + i) + 1))), (4, .int (nI ((dp tok i) + 1))), (0, .ref (g.1 + 65)), (1, .int (nI k0)), (2, .int (nI p)), (3, .int (nI c))]) [0, 1, 5, 6, 7, 8] rfl ?_
              refine v_lv (lv2 := [(5, .int (nI (a + (i + 1)))), (4, .int (nI (dp tok (i + 1)))), (0, .ref (g.1 + 65)), (1, .int (nI k0)), (2, .int (nI p)), (3, .int (nI c))]) (by first | rfl | (simp [wr, up_up, up_at, pst, pstp, dp, tkv, bq_T, bq_F, ifc_T, ifc_F, h4, h6n, h7, h8, h10]; done) | (rw [Nat.add_assoc]; simp [wr, up_up, up_at, pst, pstp, dp, tkv, bq_T, bq_F, ifc_T, ifc_F, h4, h6n, h7, h8, h10])) ?_
              refine v_I (I2 := (va_up I 83 (pst (fctM I p c) tok (I 83) (i + 1)))) (by simp [wr, up_up, up_at, pst, pstp, dp, tkv, bq_T, bq_F, ifc_T, ifc_F, h4, h6n, h7, h8, h10]) ?_
              exact ih
        · -- (((tok i) / 100) - ((tok i) / 100) / 10 * 10) eq 0
          refine v_iload dX9_holds_186 1 rfl ?_
          refine v_iload dX9_holds_188 2 rfl ?_
          refine v_bipush (v := 100) dX9_holds_190 (by decide) ?_
          refine v_irem dX9_holds_192 (by decide) ?_
          refine v_icmp_ge (tgt := 200) dX9_holds_193 (by decide) (fun h11 => ?_) (fun h11 => ?_)
          · -- (fctM I p c ((tok i) / 1000)) ge ((tok i) - (tok i) / 100 * 100)
            have h11n := Int32.not_lt.mpr h11
            refine v_iconst (v := 0) dX9_holds_200 (by decide) ?_
            refine v_goto (tgt := 243) dX9_holds_201 (by decide) ?_
            refine v_bastore (len := 100) (j := (dp tok i)) dX9_holds_243 rfl (ltn rfl) rfl (by decide) rfl (by omega) (by first | rfl | exact nbq) ?_
            refine v_inc (v := nI ((dp tok i) + 1)) (lv2 := [(4, .int (nI ((dp tok i) + 1))), (8, .int (((tok i) / 100) - ((tok i) / 100) / 10 * 10)), (7, .int (fctM I p c ((tok i) / 1000))), (6, .int (tok i)), (5, .int (nI (a + i))), (0, .ref (g.1 + 65)), (1, .int (nI k0)), (2, .int (nI p)), (3, .int (nI c))]) dX9_holds_244 4 rfl (nx_inc rfl) (by decide) rfl ?_
            refine v_inc (v := nI ((a + i) + 1)) (lv2 := [(5, .int (nI ((a + i) + 1))), (4, .int (nI ((dp tok i) + 1))), (8, .int (((tok i) / 100) - ((tok i) / 100) / 10 * 10)), (7, .int (fctM I p c ((tok i) / 1000))), (6, .int (tok i)), (0, .ref (g.1 + 65)), (1, .int (nI k0)), (2, .int (nI p)), (3, .int (nI c))]) dX9_holds_247 4 rfl (nx_inc rfl) (by decide) rfl ?_
            refine v_goto (tgt := 11) dX9_holds_250 (by decide) ?_
            refine v_sub (lv2 := [(5, .int (nI ((a + i) + 1))), (4, .int (nI ((dp tok i) + 1))), (0, .ref (g.1 + 65)), (1, .int (nI k0)), (2, .int (nI p)), (3, .int (nI c))]) [0, 1, 5, 6, 7, 8] rfl ?_
            refine v_lv (lv2 := [(5, .int (nI (a + (i + 1)))), (4, .int (nI (dp tok (i + 1)))), (0, .ref (g.1 + 65)), (1, .int (nI k0)), (2, .int (nI p)), (3, .int (nI c))]) (by first | rfl | (simp [wr, up_up, up_at, pst, pstp, dp, tkv, bq_T, bq_F, ifc_T, ifc_F, h4, h6n, h7, h11, h11n]; done) | (rw [Nat.add_assoc]; simp [wr, up_up, up_at, pst, pstp, dp, tkv, bq_T, bq_F, ifc_T, ifc_F, h4, h6n, h7, h11, h11n])) ?_
            refine v_I (I2 := (va_up I 83 (pst (fctM I p c) tok (I 83) (i + 1)))) (by simp [wr, up_up, up_at, pst, pstp, dp, tkv, bq_T, bq_F, ifc_T, ifc_F, h4, h6n, h7, h11, h11n]) ?_
            exact ih
          · -- (fctM I p c ((tok i) / 1000)) lt ((tok i) - (tok i) / 100 * 100)
            have h11n := Int32.not_le.mp h11
            refine v_iconst (v := 1) dX9_holds_196 (by decide) ?_
            refine v_goto (tgt := 243) dX9_holds_197 (by decide) ?_
            refine v_bastore (len := 100) (j := (dp tok i)) dX9_holds_243 rfl (ltn rfl) rfl (by decide) rfl (by omega) (by first | rfl | exact nbq) ?_
            refine v_inc (v := nI ((dp tok i) + 1)) (lv2 := [(4, .int (nI ((dp tok i) + 1))), (8, .int (((tok i) / 100) - ((tok i) / 100) / 10 * 10)), (7, .int (fctM I p c ((tok i) / 1000))), (6, .int (tok i)), (5, .int (nI (a + i))), (0, .ref (g.1 + 65)), (1, .int (nI k0)), (2, .int (nI p)), (3, .int (nI c))]) dX9_holds_244 4 rfl (nx_inc rfl) (by decide) rfl ?_
            refine v_inc (v := nI ((a + i) + 1)) (lv2 := [(5, .int (nI ((a + i) + 1))), (4, .int (nI ((dp tok i) + 1))), (8, .int (((tok i) / 100) - ((tok i) / 100) / 10 * 10)), (7, .int (fctM I p c ((tok i) / 1000))), (6, .int (tok i)), (0, .ref (g.1 + 65)), (1, .int (nI k0)), (2, .int (nI p)), (3, .int (nI c))]) dX9_holds_247 4 rfl (nx_inc rfl) (by decide) rfl ?_
            refine v_goto (tgt := 11) dX9_holds_250 (by decide) ?_
            refine v_sub (lv2 := [(5, .int (nI ((a + i) + 1))), (4, .int (nI ((dp tok i) + 1))), (0, .ref (g.1 + 65)), (1, .int (nI k0)), (2, .int (nI p)), (3, .int (nI c))]) [0, 1, 5, 6, 7, 8] rfl ?_
            refine v_lv (lv2 := [(5, .int (nI (a + (i + 1)))), (4, .int (nI (dp tok (i + 1)))), (0, .ref (g.1 + 65)), (1, .int (nI k0)), (2, .int (nI p)), (3, .int (nI c))]) (by first | rfl | (simp [wr, up_up, up_at, pst, pstp, dp, tkv, bq_T, bq_F, ifc_T, ifc_F, h4, h6n, h7, h11, h11n]; done) | (rw [Nat.add_assoc]; simp [wr, up_up, up_at, pst, pstp, dp, tkv, bq_T, bq_F, ifc_T, ifc_F, h4, h6n, h7, h11, h11n])) ?_
            refine v_I (I2 := (va_up I 83 (pst (fctM I p c) tok (I 83) (i + 1)))) (by simp [wr, up_up, up_at, pst, pstp, dp, tkv, bq_T, bq_F, ifc_T, ifc_F, h4, h6n, h7, h11, h11n]) ?_
            exact ih
      · have h6n := Int32.not_le.mp h6
        have hd2 := hok.2 h4 h6n
        refine v_inc (v := nI ((dp tok i) - 1)) (lv2 := [(4, .int (nI ((dp tok i) - 1))), (6, .int (tok i)), (5, .int (nI (a + i))), (0, .ref (g.1 + 65)), (1, .int (nI k0)), (2, .int (nI p)), (3, .int (nI c))]) dX9_holds_72 2 rfl (nx_dec rfl (by omega)) (by decide) rfl ?_
        refine v_aload_n dX9_holds_75 rfl 3 rfl ?_
        refine v_get (v := .ref (g.1 + 83)) fa_X9_92 dX9_holds_76 rfl (by decide) (ltn rfl) rfl ?_
        refine v_iload dX9_holds_79 0 rfl ?_
        refine v_iconst (v := 1) dX9_holds_81 (by decide) ?_
        refine v_isub dX9_holds_82 ?_
        refine v_is (nx_sub (a := ((dp tok i) - 1)) (b := 1) rfl rfl (by omega)) ?_
        refine v_iload dX9_holds_83 1 rfl ?_
        refine v_bipush (v := (-38)) dX9_holds_85 (by decide) ?_
        refine v_icmp_ne (tgt := 120) dX9_holds_87 (by decide) (fun h12 => ?_) (fun h12 => ?_)
        · -- (tok i) ne (-38)
          refine v_aload_n dX9_holds_120 rfl 3 rfl ?_
          refine v_get (v := .ref (g.1 + 83)) fa_X9_92 dX9_holds_121 rfl (by decide) (ltn rfl) rfl ?_
          refine v_iload dX9_holds_124 0 rfl ?_
          refine v_iconst (v := 1) dX9_holds_126 (by decide) ?_
          refine v_isub dX9_holds_127 ?_
          refine v_is (nx_sub (a := ((dp tok i) - 1)) (b := 1) rfl rfl (by omega)) ?_
          refine v_baload (len := 100) (j := (((dp tok i) - 1) - 1)) dX9_holds_128 rfl (ltn rfl) rfl (by decide) rfl (by omega) ?_
          refine v_is (y := (pst (fctM I p c) tok (I 83) i) (((dp tok i) - 1) - 1)) (by rfl) ?_
          refine v_if_ne (tgt := 142) dX9_holds_129 (by decide) (fun h13 => ?_) (fun h13 => ?_)
          · -- (pst (fctM I p c) tok (I 83) i) (((dp tok i) - 1) - 1) ne 0
            refine v_iconst (v := 1) dX9_holds_142 (by decide) ?_
            refine v_goto (tgt := 147) dX9_holds_143 (by decide) ?_
            refine v_bastore (len := 100) (j := (((dp tok i) - 1) - 1)) dX9_holds_147 rfl (ltn rfl) rfl (by decide) rfl (by omega) (by first | rfl | exact nbq) ?_
            refine v_goto (tgt := 247) dX9_holds_148 (by decide) ?_
            refine v_inc (v := nI ((a + i) + 1)) (lv2 := [(5, .int (nI ((a + i) + 1))), (4, .int (nI ((dp tok i) - 1))), (6, .int (tok i)), (0, .ref (g.1 + 65)), (1, .int (nI k0)), (2, .int (nI p)), (3, .int (nI c))]) dX9_holds_247 2 rfl (nx_inc rfl) (by decide) rfl ?_
            refine v_goto (tgt := 11) dX9_holds_250 (by decide) ?_
            refine v_sub (lv2 := [(5, .int (nI ((a + i) + 1))), (4, .int (nI ((dp tok i) - 1))), (0, .ref (g.1 + 65)), (1, .int (nI k0)), (2, .int (nI p)), (3, .int (nI c))]) [0, 1, 3, 4, 5, 6] rfl ?_
            refine v_lv (lv2 := [(5, .int (nI (a + (i + 1)))), (4, .int (nI (dp tok (i + 1)))), (0, .ref (g.1 + 65)), (1, .int (nI k0)), (2, .int (nI p)), (3, .int (nI c))]) (by first | rfl | (simp [wr, up_up, up_at, pst, pstp, dp, tkv, bq_T, bq_F, ifc_T, ifc_F, h4, h6n, h12, h13]; done) | (rw [Nat.add_assoc]; simp [wr, up_up, up_at, pst, pstp, dp, tkv, bq_T, bq_F, ifc_T, ifc_F, h4, h6n, h12, h13])) ?_
            refine v_I (I2 := (va_up I 83 (pst (fctM I p c) tok (I 83) (i + 1)))) (by simp [wr, up_up, up_at, pst, pstp, dp, tkv, bq_T, bq_F, ifc_T, ifc_F, h4, h6n, h12, h13]) ?_
            exact ih
          · -- (pst (fctM I p c) tok (I 83) i) (((dp tok i) - 1) - 1) eq 0
            refine v_aload_n dX9_holds_132 rfl 3 rfl ?_
            refine v_get (v := .ref (g.1 + 83)) fa_X9_92 dX9_holds_133 rfl (by decide) (ltn rfl) rfl ?_
            refine v_iload dX9_holds_136 0 rfl ?_
            refine v_baload (len := 100) (j := ((dp tok i) - 1)) dX9_holds_138 rfl (ltn rfl) rfl (by decide) rfl (by omega) ?_
            refine v_is (y := (pst (fctM I p c) tok (I 83) i) ((dp tok i) - 1)) (by rfl) ?_
            refine v_if_eq (tgt := 146) dX9_holds_139 (by decide) (fun h14 => ?_) (fun h14 => ?_)
            · -- (pst (fctM I p c) tok (I 83) i) ((dp tok i) - 1) eq 0
              refine v_iconst (v := 0) dX9_holds_146 (by decide) ?_
              refine v_bastore (len := 100) (j := (((dp tok i) - 1) - 1)) dX9_holds_147 rfl (ltn rfl) rfl (by decide) rfl (by omega) (by first | rfl | exact nbq) ?_
              refine v_goto (tgt := 247) dX9_holds_148 (by decide) ?_
              refine v_inc (v := nI ((a + i) + 1)) (lv2 := [(5, .int (nI ((a + i) + 1))), (4, .int (nI ((dp tok i) - 1))), (6, .int (tok i)), (0, .ref (g.1 + 65)), (1, .int (nI k0)), (2, .int (nI p)), (3, .int (nI c))]) dX9_holds_247 2 rfl (nx_inc rfl) (by decide) rfl ?_
              refine v_goto (tgt := 11) dX9_holds_250 (by decide) ?_
              refine v_sub (lv2 := [(5, .int (nI ((a + i) + 1))), (4, .int (nI ((dp tok i) - 1))), (0, .ref (g.1 + 65)), (1, .int (nI k0)), (2, .int (nI p)), (3, .int (nI c))]) [0, 1, 3, 4, 5, 6] rfl ?_
              refine v_lv (lv2 := [(5, .int (nI (a + (i + 1)))), (4, .int (nI (dp tok (i + 1)))), (0, .ref (g.1 + 65)), (1, .int (nI k0)), (2, .int (nI p)), (3, .int (nI c))]) (by first | rfl | (simp [wr, up_up, up_at, pst, pstp, dp, tkv, bq_T, bq_F, ifc_T, ifc_F, h4, h6n, h12, h13, h14]; done) | (rw [Nat.add_assoc]; simp [wr, up_up, up_at, pst, pstp, dp, tkv, bq_T, bq_F, ifc_T, ifc_F, h4, h6n, h12, h13, h14])) ?_
              refine v_I (I2 := (va_up I 83 (pst (fctM I p c) tok (I 83) (i + 1)))) (by simp [wr, up_up, up_at, pst, pstp, dp, tkv, bq_T, bq_F, ifc_T, ifc_F, h4, h6n, h12, h13, h14]) ?_
              exact ih
            · -- (pst (fctM I p c) tok (I 83) i) ((dp tok i) - 1) ne 0
              refine v_iconst (v := 1) dX9_holds_142 (by decide) ?_
              refine v_goto (tgt := 147) dX9_holds_143 (by decide) ?_
              refine v_bastore (len := 100) (j := (((dp tok i) - 1) - 1)) dX9_holds_147 rfl (ltn rfl) rfl (by decide) rfl (by omega) (by first | rfl | exact nbq) ?_
              refine v_goto (tgt := 247) dX9_holds_148 (by decide) ?_
              refine v_inc (v := nI ((a + i) + 1)) (lv2 := [(5, .int (nI ((a + i) + 1))), (4, .int (nI ((dp tok i) - 1))), (6, .int (tok i)), (0, .ref (g.1 + 65)), (1, .int (nI k0)), (2, .int (nI p)), (3, .int (nI c))]) dX9_holds_247 2 rfl (nx_inc rfl) (by decide) rfl ?_
              refine v_goto (tgt := 11) dX9_holds_250 (by decide) ?_
              refine v_sub (lv2 := [(5, .int (nI ((a + i) + 1))), (4, .int (nI ((dp tok i) - 1))), (0, .ref (g.1 + 65)), (1, .int (nI k0)), (2, .int (nI p)), (3, .int (nI c))]) [0, 1, 3, 4, 5, 6] rfl ?_
              refine v_lv (lv2 := [(5, .int (nI (a + (i + 1)))), (4, .int (nI (dp tok (i + 1)))), (0, .ref (g.1 + 65)), (1, .int (nI k0)), (2, .int (nI p)), (3, .int (nI c))]) (by first | rfl | (simp [wr, up_up, up_at, pst, pstp, dp, tkv, bq_T, bq_F, ifc_T, ifc_F, h4, h6n, h12, h13, h14]; done) | (rw [Nat.add_assoc]; simp [wr, up_up, up_at, pst, pstp, dp, tkv, bq_T, bq_F, ifc_T, ifc_F, h4, h6n, h12, h13, h14])) ?_
              refine v_I (I2 := (va_up I 83 (pst (fctM I p c) tok (I 83) (i + 1)))) (by simp [wr, up_up, up_at, pst, pstp, dp, tkv, bq_T, bq_F, ifc_T, ifc_F, h4, h6n, h12, h13, h14]) ?_
              exact ih
        · -- (tok i) eq (-38)
          refine v_aload_n dX9_holds_90 rfl 3 rfl ?_
          refine v_get (v := .ref (g.1 + 83)) fa_X9_92 dX9_holds_91 rfl (by decide) (ltn rfl) rfl ?_
          refine v_iload dX9_holds_94 0 rfl ?_
          refine v_iconst (v := 1) dX9_holds_96 (by decide) ?_
          refine v_isub dX9_holds_97 ?_
          refine v_is (nx_sub (a := ((dp tok i) - 1)) (b := 1) rfl rfl (by omega)) ?_
          refine v_baload (len := 100) (j := (((dp tok i) - 1) - 1)) dX9_holds_98 rfl (ltn rfl) rfl (by decide) rfl (by omega) ?_
          refine v_is (y := (pst (fctM I p c) tok (I 83) i) (((dp tok i) - 1) - 1)) (by rfl) ?_
          refine v_if_eq (tgt := 116) dX9_holds_99 (by decide) (fun h15 => ?_) (fun h15 => ?_)
          · -- (pst (fctM I p c) tok (I 83) i) (((dp tok i) - 1) - 1) eq 0
            refine v_iconst (v := 0) dX9_holds_116 (by decide) ?_
            refine v_goto (tgt := 147) dX9_holds_117 (by decide) ?_
            refine v_bastore (len := 100) (j := (((dp tok i) - 1) - 1)) dX9_holds_147 rfl (ltn rfl) rfl (by decide) rfl (by omega) (by first | rfl | exact nbq) ?_
            refine v_goto (tgt := 247) dX9_holds_148 (by decide) ?_
            refine v_inc (v := nI ((a + i) + 1)) (lv2 := [(5, .int (nI ((a + i) + 1))), (4, .int (nI ((dp tok i) - 1))), (6, .int (tok i)), (0, .ref (g.1 + 65)), (1, .int (nI k0)), (2, .int (nI p)), (3, .int (nI c))]) dX9_holds_247 2 rfl (nx_inc rfl) (by decide) rfl ?_
            refine v_goto (tgt := 11) dX9_holds_250 (by decide) ?_
            refine v_sub (lv2 := [(5, .int (nI ((a + i) + 1))), (4, .int (nI ((dp tok i) - 1))), (0, .ref (g.1 + 65)), (1, .int (nI k0)), (2, .int (nI p)), (3, .int (nI c))]) [0, 1, 3, 4, 5, 6] rfl ?_
            refine v_lv (lv2 := [(5, .int (nI (a + (i + 1)))), (4, .int (nI (dp tok (i + 1)))), (0, .ref (g.1 + 65)), (1, .int (nI k0)), (2, .int (nI p)), (3, .int (nI c))]) (by first | rfl | (simp [wr, up_up, up_at, pst, pstp, dp, tkv, bq_T, bq_F, ifc_T, ifc_F, h4, h6n, h12, h15]; done) | (rw [Nat.add_assoc]; simp [wr, up_up, up_at, pst, pstp, dp, tkv, bq_T, bq_F, ifc_T, ifc_F, h4, h6n, h12, h15])) ?_
            refine v_I (I2 := (va_up I 83 (pst (fctM I p c) tok (I 83) (i + 1)))) (by simp [wr, up_up, up_at, pst, pstp, dp, tkv, bq_T, bq_F, ifc_T, ifc_F, h4, h6n, h12, h15]) ?_
            exact ih
          · -- (pst (fctM I p c) tok (I 83) i) (((dp tok i) - 1) - 1) ne 0
            refine v_aload_n dX9_holds_102 rfl 3 rfl ?_
            refine v_get (v := .ref (g.1 + 83)) fa_X9_92 dX9_holds_103 rfl (by decide) (ltn rfl) rfl ?_
            refine v_iload dX9_holds_106 0 rfl ?_
            refine v_baload (len := 100) (j := ((dp tok i) - 1)) dX9_holds_108 rfl (ltn rfl) rfl (by decide) rfl (by omega) ?_
            refine v_is (y := (pst (fctM I p c) tok (I 83) i) ((dp tok i) - 1)) (by rfl) ?_
            refine v_if_eq (tgt := 116) dX9_holds_109 (by decide) (fun h16 => ?_) (fun h16 => ?_)
            · -- (pst (fctM I p c) tok (I 83) i) ((dp tok i) - 1) eq 0
              refine v_iconst (v := 0) dX9_holds_116 (by decide) ?_
              refine v_goto (tgt := 147) dX9_holds_117 (by decide) ?_
              refine v_bastore (len := 100) (j := (((dp tok i) - 1) - 1)) dX9_holds_147 rfl (ltn rfl) rfl (by decide) rfl (by omega) (by first | rfl | exact nbq) ?_
              refine v_goto (tgt := 247) dX9_holds_148 (by decide) ?_
              refine v_inc (v := nI ((a + i) + 1)) (lv2 := [(5, .int (nI ((a + i) + 1))), (4, .int (nI ((dp tok i) - 1))), (6, .int (tok i)), (0, .ref (g.1 + 65)), (1, .int (nI k0)), (2, .int (nI p)), (3, .int (nI c))]) dX9_holds_247 2 rfl (nx_inc rfl) (by decide) rfl ?_
              refine v_goto (tgt := 11) dX9_holds_250 (by decide) ?_
              refine v_sub (lv2 := [(5, .int (nI ((a + i) + 1))), (4, .int (nI ((dp tok i) - 1))), (0, .ref (g.1 + 65)), (1, .int (nI k0)), (2, .int (nI p)), (3, .int (nI c))]) [0, 1, 3, 4, 5, 6] rfl ?_
              refine v_lv (lv2 := [(5, .int (nI (a + (i + 1)))), (4, .int (nI (dp tok (i + 1)))), (0, .ref (g.1 + 65)), (1, .int (nI k0)), (2, .int (nI p)), (3, .int (nI c))]) (by first | rfl | (simp [wr, up_up, up_at, pst, pstp, dp, tkv, bq_T, bq_F, ifc_T, ifc_F, h4, h6n, h12, h15, h16]; done) | (rw [Nat.add_assoc]; simp [wr, up_up, up_at, pst, pstp, dp, tkv, bq_T, bq_F, ifc_T, ifc_F, h4, h6n, h12, h15, h16])) ?_
              refine v_I (I2 := (va_up I 83 (pst (fctM I p c) tok (I 83) (i + 1)))) (by simp [wr, up_up, up_at, pst, pstp, dp, tkv, bq_T, bq_F, ifc_T, ifc_F, h4, h6n, h12, h15, h16]) ?_
              exact ih
            · -- (pst (fctM I p c) tok (I 83) i) ((dp tok i) - 1) ne 0
              refine v_iconst (v := 1) dX9_holds_112 (by decide) ?_
              refine v_goto (tgt := 147) dX9_holds_113 (by decide) ?_
              refine v_bastore (len := 100) (j := (((dp tok i) - 1) - 1)) dX9_holds_147 rfl (ltn rfl) rfl (by decide) rfl (by omega) (by first | rfl | exact nbq) ?_
              refine v_goto (tgt := 247) dX9_holds_148 (by decide) ?_
              refine v_inc (v := nI ((a + i) + 1)) (lv2 := [(5, .int (nI ((a + i) + 1))), (4, .int (nI ((dp tok i) - 1))), (6, .int (tok i)), (0, .ref (g.1 + 65)), (1, .int (nI k0)), (2, .int (nI p)), (3, .int (nI c))]) dX9_holds_247 2 rfl (nx_inc rfl) (by decide) rfl ?_
              refine v_goto (tgt := 11) dX9_holds_250 (by decide) ?_
              refine v_sub (lv2 := [(5, .int (nI ((a + i) + 1))), (4, .int (nI ((dp tok i) - 1))), (0, .ref (g.1 + 65)), (1, .int (nI k0)), (2, .int (nI p)), (3, .int (nI c))]) [0, 1, 3, 4, 5, 6] rfl ?_
              refine v_lv (lv2 := [(5, .int (nI (a + (i + 1)))), (4, .int (nI (dp tok (i + 1)))), (0, .ref (g.1 + 65)), (1, .int (nI k0)), (2, .int (nI p)), (3, .int (nI c))]) (by first | rfl | (simp [wr, up_up, up_at, pst, pstp, dp, tkv, bq_T, bq_F, ifc_T, ifc_F, h4, h6n, h12, h15, h16]; done) | (rw [Nat.add_assoc]; simp [wr, up_up, up_at, pst, pstp, dp, tkv, bq_T, bq_F, ifc_T, ifc_F, h4, h6n, h12, h15, h16])) ?_
              refine v_I (I2 := (va_up I 83 (pst (fctM I p c) tok (I 83) (i + 1)))) (by simp [wr, up_up, up_at, pst, pstp, dp, tkv, bq_T, bq_F, ifc_T, ifc_F, h4, h6n, h12, h15, h16]) ?_
              exact ih
    · -- (tok i) eq (-33)
      have hd1 := hok.1 h4
      refine v_aload_n dX9_holds_38 rfl 3 rfl ?_
      refine v_get (v := .ref (g.1 + 83)) fa_X9_92 dX9_holds_39 rfl (by decide) (ltn rfl) rfl ?_
      refine v_iload dX9_holds_42 2 rfl ?_
      refine v_iconst (v := 1) dX9_holds_44 (by decide) ?_
      refine v_isub dX9_holds_45 ?_
      refine v_is (nx_sub (a := (dp tok i)) (b := 1) rfl rfl (by omega)) ?_
      refine v_aload_n dX9_holds_46 rfl 3 rfl ?_
      refine v_get (v := .ref (g.1 + 83)) fa_X9_92 dX9_holds_47 rfl (by decide) (ltn rfl) rfl ?_
      refine v_iload dX9_holds_50 2 rfl ?_
      refine v_iconst (v := 1) dX9_holds_52 (by decide) ?_
      refine v_isub dX9_holds_53 ?_
      refine v_is (nx_sub (a := (dp tok i)) (b := 1) rfl rfl (by omega)) ?_
      refine v_baload (len := 100) (j := ((dp tok i) - 1)) dX9_holds_54 rfl (ltn rfl) rfl (by decide) rfl (by omega) ?_
      refine v_is (y := (pst (fctM I p c) tok (I 83) i) ((dp tok i) - 1)) (by rfl) ?_
      refine v_if_ne (tgt := 62) dX9_holds_55 (by decide) (fun h17 => ?_) (fun h17 => ?_)
      · -- (pst (fctM I p c) tok (I 83) i) ((dp tok i) - 1) ne 0
        refine v_iconst (v := 0) dX9_holds_62 (by decide) ?_
        refine v_bastore (len := 100) (j := ((dp tok i) - 1)) dX9_holds_63 rfl (ltn rfl) rfl (by decide) rfl (by omega) (by first | rfl | exact nbq) ?_
        refine v_goto (tgt := 247) dX9_holds_64 (by decide) ?_
        refine v_inc (v := nI ((a + i) + 1)) (lv2 := [(5, .int (nI ((a + i) + 1))), (6, .int (tok i)), (4, .int (nI (dp tok i))), (0, .ref (g.1 + 65)), (1, .int (nI k0)), (2, .int (nI p)), (3, .int (nI c))]) dX9_holds_247 1 rfl (nx_inc rfl) (by decide) rfl ?_
        refine v_goto (tgt := 11) dX9_holds_250 (by decide) ?_
        refine v_sub (lv2 := [(5, .int (nI ((a + i) + 1))), (4, .int (nI (dp tok i))), (0, .ref (g.1 + 65)), (1, .int (nI k0)), (2, .int (nI p)), (3, .int (nI c))]) [0, 2, 3, 4, 5, 6] rfl ?_
        refine v_lv (lv2 := [(5, .int (nI (a + (i + 1)))), (4, .int (nI (dp tok (i + 1)))), (0, .ref (g.1 + 65)), (1, .int (nI k0)), (2, .int (nI p)), (3, .int (nI c))]) (by first | rfl | (simp [wr, up_up, up_at, pst, pstp, dp, tkv, bq_T, bq_F, ifc_T, ifc_F, h4, h17]; done) | (rw [Nat.add_assoc]; simp [wr, up_up, up_at, pst, pstp, dp, tkv, bq_T, bq_F, ifc_T, ifc_F, h4, h17])) ?_
        refine v_I (I2 := (va_up I 83 (pst (fctM I p c) tok (I 83) (i + 1)))) (by simp [wr, up_up, up_at, pst, pstp, dp, tkv, bq_T, bq_F, ifc_T, ifc_F, h4, h17]) ?_
        exact ih
      · -- (pst (fctM I p c) tok (I 83) i) ((dp tok i) - 1) eq 0
        refine v_iconst (v := 1) dX9_holds_58 (by decide) ?_
        refine v_goto (tgt := 63) dX9_holds_59 (by decide) ?_
        refine v_bastore (len := 100) (j := ((dp tok i) - 1)) dX9_holds_63 rfl (ltn rfl) rfl (by decide) rfl (by omega) (by first | rfl | exact nbq) ?_
        refine v_goto (tgt := 247) dX9_holds_64 (by decide) ?_
        refine v_inc (v := nI ((a + i) + 1)) (lv2 := [(5, .int (nI ((a + i) + 1))), (6, .int (tok i)), (4, .int (nI (dp tok i))), (0, .ref (g.1 + 65)), (1, .int (nI k0)), (2, .int (nI p)), (3, .int (nI c))]) dX9_holds_247 1 rfl (nx_inc rfl) (by decide) rfl ?_
        refine v_goto (tgt := 11) dX9_holds_250 (by decide) ?_
        refine v_sub (lv2 := [(5, .int (nI ((a + i) + 1))), (4, .int (nI (dp tok i))), (0, .ref (g.1 + 65)), (1, .int (nI k0)), (2, .int (nI p)), (3, .int (nI c))]) [0, 2, 3, 4, 5, 6] rfl ?_
        refine v_lv (lv2 := [(5, .int (nI (a + (i + 1)))), (4, .int (nI (dp tok (i + 1)))), (0, .ref (g.1 + 65)), (1, .int (nI k0)), (2, .int (nI p)), (3, .int (nI c))]) (by first | rfl | (simp [wr, up_up, up_at, pst, pstp, dp, tkv, bq_T, bq_F, ifc_T, ifc_F, h4, h17]; done) | (rw [Nat.add_assoc]; simp [wr, up_up, up_at, pst, pstp, dp, tkv, bq_T, bq_F, ifc_T, ifc_F, h4, h17])) ?_
        refine v_I (I2 := (va_up I 83 (pst (fctM I p c) tok (I 83) (i + 1)))) (by simp [wr, up_up, up_at, pst, pstp, dp, tkv, bq_T, bq_F, ifc_T, ifc_F, h4, h17]) ?_
        exact ih
