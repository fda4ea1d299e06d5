/-! what is asked goes on and is put back -/
/-- the heap but for what every asking may use: rows 83 to 88, and the hour that was kept -/
def sck (I : Ty) (kp : Ty) (kh : Int32) : Ty := fun a => if 83 ≤ a ∧ a ≤ 88 then kp a else if a = 65 then va_up (I 65) 30 kh else I a
abbrev Pk (v0 : Option Value) (I0 : Ty) (L0 : TL) (R0 : TR) (N0 : TN) (n0 : Nat) : Post := fun v I L R N n => v = v0 ∧ (∃ kp kh, I = sck I0 kp kh) ∧ L = L0 ∧ R = R0 ∧ N = N0 ∧ n = n0
theorem sck_self (I : Ty) : I = sck I I (I 65 30) := by
  funext a; unfold sck
  by_cases h : 83 ≤ a ∧ a ≤ 88
  · rw [if_pos h]
  · rw [if_neg h]
    by_cases h2 : a = 65
    · subst h2; rw [if_pos rfl, up_self]
    · rw [if_neg h2]
theorem sck_sck (I kp kp2 : Ty) (kh kh2 : Int32) : sck (sck I kp kh) kp2 kh2 = sck I kp2 kh2 := by
  funext a; unfold sck
  by_cases h : 83 ≤ a ∧ a ≤ 88
  · rw [if_pos h, if_pos h]
  · rw [if_neg h, if_neg h]
    by_cases h2 : a = 65
    · subst h2; rw [if_pos rfl, if_neg h, if_pos rfl, up_up, if_neg h, if_pos rfl]
    · rw [if_neg h2, if_neg h2, if_neg h, if_neg h2]
theorem scr_sck (I : Ty) (f h : Nat → Int32) : scr I f h = sck I (scr I f h) (I 65 30) := sck_self (scr I f h) |>.trans (by
  funext a; unfold sck
  by_cases h1 : 83 ≤ a ∧ a ≤ 88
  · rw [if_pos h1, if_pos h1]
  · rw [if_neg h1, if_neg h1]
    by_cases h2 : a = 65
    · subst h2; rfl
    · rw [if_neg h2, if_neg h2, scr_off _ _ _ _ (by omega) (by omega)])
def q4 (B : Ty) (x0 : Nat) (a b c d : Nat → Int32) : Ty := va_up (va_up (va_up (va_up B x0 a) (x0 + 1) b) (x0 + 2) c) (x0 + 3) d
theorem q4_q4 (B : Ty) (x0 : Nat) (a b c d a2 b2 c2 d2 : Nat → Int32) : q4 (q4 B x0 a b c d) x0 a2 b2 c2 d2 = q4 B x0 a2 b2 c2 d2 := by
  unfold q4
  funext j; unfold va_up
  by_cases h1 : j = x0 + 3
  · simp [h1]
  · by_cases h2 : j = x0 + 2
    · simp [h2]
    · by_cases h3 : j = x0 + 1
      · simp [h3]
      · by_cases h4 : j = x0
        · simp [h4]
        · simp [h1, h2, h3, h4]
theorem q4_self (B : Ty) (x0 : Nat) : q4 B x0 (B x0) (B (x0 + 1)) (B (x0 + 2)) (B (x0 + 3)) = B := by
  unfold q4
  funext j; unfold va_up
  by_cases h1 : j = x0 + 3
  · simp [h1]
  · by_cases h2 : j = x0 + 2
    · simp [h2]
    · by_cases h3 : j = x0 + 1
      · simp [h3]
      · by_cases h4 : j = x0
        · simp [h4]
        · simp [h1, h2, h3, h4]
def svB (I : Ty) : Ty := wr (wr I 65 29 2000000000) 65 30 (I 65 1)
def svI (I : Ty) (i : Nat) : Ty := q4 (svB I) 85 (cpn (I 69) (I 85) i) (cpn (I 70) (I 86) i) (cpn (I 71) (I 87) i) (cpn (I 72) (I 88) i)
def svd (I : Ty) : Ty := svI I 6
def pbB (I : Ty) : Ty := wr (wr I 65 29 9999) 65 1 (I 65 30)
def pbI (I : Ty) (i : Nat) : Ty := q4 (pbB I) 69 (cpn (I 85) (I 69) i) (cpn (I 86) (I 70) i) (cpn (I 87) (I 71) i) (cpn (I 88) (I 72) i)
def pbd (I : Ty) : Ty := pbI I 6
theorem svI_0 (I : Ty) : svI I 0 = svB I := by
  unfold svI
  rw [cpn_0, cpn_0, cpn_0, cpn_0]
  exact q4_self (svB I) 85
theorem pbI_0 (I : Ty) : pbI I 0 = pbB I := by
  unfold pbI
  rw [cpn_0, cpn_0, cpn_0, cpn_0]
  exact q4_self (pbB I) 69
theorem svI_s (I : Ty) (i : Nat) : wr (wr (wr (wr (svI I i) 85 i (I 69 i)) 86 i (I 70 i)) 87 i (I 71 i)) 88 i (I 72 i) = svI I (i + 1) := by
  have e : wr (wr (wr (wr (svI I i) 85 i (I 69 i)) 86 i (I 70 i)) 87 i (I 71 i)) 88 i (I 72 i) = q4 (svI I i) 85 (va_up (cpn (I 69) (I 85) i) i (I 69 i)) (va_up (cpn (I 70) (I 86) i) i (I 70 i)) (va_up (cpn (I 71) (I 87) i) i (I 71 i)) (va_up (cpn (I 72) (I 88) i) i (I 72 i)) := rfl
  rw [e, cpn_s, cpn_s, cpn_s, cpn_s]
  exact q4_q4 _ _ _ _ _ _ _ _ _ _
theorem pbI_s (I : Ty) (i : Nat) : wr (wr (wr (wr (pbI I i) 69 i (I 85 i)) 70 i (I 86 i)) 71 i (I 87 i)) 72 i (I 88 i) = pbI I (i + 1) := by
  have e : wr (wr (wr (wr (pbI I i) 69 i (I 85 i)) 70 i (I 86 i)) 71 i (I 87 i)) 72 i (I 88 i) = q4 (pbI I i) 69 (va_up (cpn (I 85) (I 69) i) i (I 85 i)) (va_up (cpn (I 86) (I 70) i) i (I 86 i)) (va_up (cpn (I 87) (I 71) i) i (I 87 i)) (va_up (cpn (I 88) (I 72) i) i (I 88 i)) := rfl
  rw [e, cpn_s, cpn_s, cpn_s, cpn_s]
  exact q4_q4 _ _ _ _ _ _ _ _ _ _
/-- behind putBack all is as it was -/
theorem pb_gen {I X : Ty} (hM : I 65 29 = 9999) (h1 : ∀ a, a ≠ 65 → a ≠ 69 → a ≠ 70 → a ≠ 71 → a ≠ 72 → a ≠ 83 → a ≠ 84 → X a = svd I a) (h2 : ∀ j, j ≠ 1 → X 65 j = svd I 65 j) (h3 : ∀ j, 6 ≤ j → X 69 j = I 69 j ∧ X 70 j = I 70 j ∧ X 71 j = I 71 j ∧ X 72 j = I 72 j) : pbd X = sck I X (X 65 30) := by
  have e85 := h1 85 (by decide) (by decide) (by decide) (by decide) (by decide) (by decide) (by decide)
  have e86 := h1 86 (by decide) (by decide) (by decide) (by decide) (by decide) (by decide) (by decide)
  have e87 := h1 87 (by decide) (by decide) (by decide) (by decide) (by decide) (by decide) (by decide)
  have e88 := h1 88 (by decide) (by decide) (by decide) (by decide) (by decide) (by decide) (by decide)
  have row : ∀ (a b x : Nat → Int32), (∀ j, 6 ≤ j → x j = a j) → cpn (cpn a b 6) x 6 = a := by
    intro a b x h
    funext j; unfold cpn
    by_cases hj : j < 6
    · simp [hj]
    · simp [hj, h j (by omega)]
  funext a
  unfold pbd pbI sck
  rw [e85, e86, e87, e88]
  by_cases q1 : a = 72
  · subst q1; exact row _ _ _ fun j hj => (h3 j hj).2.2.2
  · by_cases q2 : a = 71
    · subst q2; exact row _ _ _ fun j hj => (h3 j hj).2.2.1
    · by_cases q3 : a = 70
      · subst q3; exact row _ _ _ fun j hj => (h3 j hj).2.1
      · by_cases q4' : a = 69
        · subst q4'; exact row _ _ _ fun j hj => (h3 j hj).1
        · have hq : q4 (pbB X) 69 (cpn (svd I 85) (X 69) 6) (cpn (svd I 86) (X 70) 6) (cpn (svd I 87) (X 71) 6) (cpn (svd I 88) (X 72) 6) a = pbB X a := by
            unfold q4
            rw [up_off _ _ q1, up_off _ _ q2, up_off _ _ q3, up_off _ _ q4']
          rw [hq]
          by_cases q5 : a = 65
          · subst q5
            rw [if_neg (by decide), if_pos rfl]
            funext j
            show va_up (va_up (X 65) 29 9999) 1 (X 65 30) j = va_up (I 65) 30 (X 65 30) j
            by_cases j1 : j = 1
            · subst j1
              rw [up_at, up_off _ _ (by decide), h2 30 (by decide)]
              rfl
            · rw [up_off _ _ j1]
              by_cases j2 : j = 29
              · subst j2
                rw [up_at, up_off _ _ (by decide), hM]
              · rw [up_off _ _ j2]
                by_cases j3 : j = 30
                · subst j3; rw [up_at]
                · rw [up_off _ _ j3, h2 j j1]
                  show va_up (va_up (I 65) 29 2000000000) 30 (I 65 1) j = I 65 j
                  rw [up_off _ _ j3, up_off _ _ j2]
          · have hb : pbB X a = X a := by
              show va_up (va_up X 65 _) 65 _ a = X a
              rw [up_off _ _ q5, up_off _ _ q5]
            rw [hb]
            by_cases q6 : 83 ≤ a ∧ a ≤ 88
            · rw [if_pos q6]
            · rw [if_neg q6, if_neg q5, h1 a q5 q4' q3 q2 q1 (by omega) (by omega)]
              show q4 (svB I) 85 _ _ _ _ a = I a
              unfold q4
              rw [up_off _ _ (by omega), up_off _ _ (by omega), up_off _ _ (by omega), up_off _ _ (by omega)]
              show va_up (va_up I 65 _) 65 _ a = I a
              rw [up_off _ _ q5, up_off _ _ q5]
/-- the least number below n of which P holds, or n -/
theorem frst_ex (P : Nat → Prop) (n : Nat) : ∃ k, (k = n ∨ P k) ∧ ∀ j, j < k → ¬ (j = n ∨ P j) := pk_least _ ⟨n, Or.inl rfl⟩
noncomputable def frst (P : Nat → Prop) (n : Nat) : Nat := (frst_ex P n).choose
theorem frst_eq {P : Nat → Prop} {n i : Nat} (hi : i ≤ n) (h : i = n ∨ P i) (hj : ∀ j, j < i → ¬ P j) : frst P n = i := by
  obtain ⟨h1, h2⟩ := (frst_ex P n).choose_spec
  show (frst_ex P n).choose = i
  generalize (frst_ex P n).choose = k at h1 h2
  rcases Nat.lt_trichotomy k i with q | q | q
  · rcases h1 with e | e
    · omega
    · exact absurd e (hj k q)
  · exact q
  · exact absurd h (h2 i q)
theorem frst_le (P : Nat → Prop) (n : Nat) : frst P n ≤ n := by
  obtain ⟨h1, h2⟩ := (frst_ex P n).choose_spec
  exact Nat.not_lt.mp fun q => h2 n q (Or.inl rfl)
set_option maxRecDepth 100000 in
set_option maxHeartbeats 400000 in
theorem c_X9_save {g : Gl} {I : Ty} {L : TL} {na nt ni m : Nat} {nl : Nat → Nat}   : Ct g yX9_save cX9_save 2 none 0 0 0 [.ref (g.1 + 65)] I L (RT na nt ni) (NT nl) (NB + m) (Ps none (svd I) L (RT na nt ni) (NT nl) (NB + m)) := by
  refine ct_of (by decide +kernel) (Nat.le_of_ble_eq_true rfl) (fun F hnm hr => ?_)
  clear hnm
  show V g F cX9_save RX9 2 0 0 [(0, .ref (g.1 + 65))] [] I L (RT na nt ni) (NT nl) (NB + m) 0 0
  refine v_aload_n dX9_save_0 rfl 0 rfl ?_
  refine v_ldcw dX9_save_1 uc_X9_358 ?_
  refine v_puti pa_X9_99 dX9_save_4 rfl (by decide) (ltn rfl) (by show 29 < 73; decide) rfl ?_
  refine v_aload_n dX9_save_7 rfl 0 rfl ?_
  refine v_aload_n dX9_save_8 rfl 0 rfl ?_
  refine v_get (v := .int (I 65 1)) fa_X9_13 dX9_save_9 rfl (by decide) (ltn rfl) rfl ?_
  refine v_puti pa_X9_102 dX9_save_12 rfl (by decide) (ltn rfl) (by show 30 < 73; decide) rfl ?_
  refine v_iconst (v := 0) dX9_save_15 (by decide) ?_
  refine v_istore_n (lv2 := [(1, .int 0), (0, .ref (g.1 + 65))]) dX9_save_16 rfl (by decide) rfl ?_
  refine v_lv (lv2 := [(1, .int (nI 0)), (0, .ref (g.1 + 65))]) (by rfl) ?_
  refine v_I (I2 := (svI I 0)) (by exact (svI_0 I).symm) ?_
  refine dloop (P := fun i => V g F cX9_save RX9 2 0 17 [(1, .int (nI i)), (0, .ref (g.1 + 65))] [] (svI I i) L (RT na nt ni) (NT nl) (NB + m) 0 0) 6 ?_ ?_ 0 (Nat.zero_le _)
  · refine v_iload_n dX9_save_17 rfl 0 rfl ?_
    refine v_bipush (v := 6) dX9_save_18 (by decide) ?_
    refine v_icmp_geN (a := 6) (b := 6) (tgt := 77) dX9_save_20 (by decide) rfl rfl (by omega) (by omega) (fun h1 => ?_) (fun h => by exfalso; omega)
    exact v_vret hr dX9_save_77 (psv rfl)
  · intro i hi ih
    refine v_iload_n dX9_save_17 rfl 0 rfl ?_
    refine v_bipush (v := 6) dX9_save_18 (by decide) ?_
    refine v_icmp_geN (a := i) (b := 6) (tgt := 77) dX9_save_20 (by decide) rfl rfl (by omega) (by omega) (fun h => by exfalso; omega) (fun h2 => ?_)
    refine v_aload_n dX9_save_23 rfl 1 rfl ?_
    refine v_get (v := .ref (g.1 + 85)) fa_X9_105 dX9_save_24 rfl (by decide) (ltn rfl) rfl ?_
    refine v_iload_n dX9_save_27 rfl 0 rfl ?_
    refine v_aload_n dX9_save_28 rfl 1 rfl ?_
    refine v_get (v := .ref (g.1 + 69)) fa_X9_26 dX9_save_29 rfl (by decide) (ltn rfl) rfl ?_
    refine v_iload_n dX9_save_32 rfl 0 rfl ?_
    refine v_iaload (len := 6) (j := i) dX9_save_33 rfl (ltn rfl) rfl (by decide) rfl (by omega) ?_
    refine v_is (y := I 69 i) (by rfl) ?_
    refine v_iastore (len := 6) (j := i) dX9_save_34 rfl (ltn rfl) rfl (by decide) rfl (by omega) ?_
    refine v_aload_n dX9_save_35 rfl 1 rfl ?_
    refine v_get (v := .ref (g.1 + 86)) fa_X9_108 dX9_save_36 rfl (by decide) (ltn rfl) rfl ?_
    refine v_iload_n dX9_save_39 rfl 0 rfl ?_
    refine v_aload_n dX9_save_40 rfl 1 rfl ?_
    refine v_get (v := .ref (g.1 + 70)) fa_X9_29 dX9_save_41 rfl (by decide) (ltn rfl) rfl ?_
    refine v_iload_n dX9_save_44 rfl 0 rfl ?_
    refine v_iaload (len := 6) (j := i) dX9_save_45 rfl (ltn rfl) rfl (by decide) rfl (by omega) ?_
    refine v_is (y := I 70 i) (by first | (rfl) | (simp only [va_up]; rfl) | (simp [va_up]; rfl)) ?_
    refine v_iastore (len := 6) (j := i) dX9_save_46 rfl (ltn rfl) rfl (by decide) rfl (by omega) ?_
    refine v_aload_n dX9_save_47 rfl 1 rfl ?_
    refine v_get (v := .ref (g.1 + 87)) fa_X9_111 dX9_save_48 rfl (by decide) (ltn rfl) rfl ?_
    refine v_iload_n dX9_save_51 rfl 0 rfl ?_
    refine v_aload_n dX9_save_52 rfl 1 rfl ?_
    refine v_get (v := .ref (g.1 + 71)) fa_X9_32 dX9_save_53 rfl (by decide) (ltn rfl) rfl ?_
    refine v_iload_n dX9_save_56 rfl 0 rfl ?_
    refine v_iaload (len := 6) (j := i) dX9_save_57 rfl (ltn rfl) rfl (by decide) rfl (by omega) ?_
    refine v_is (y := I 71 i) (by first | (rfl) | (simp only [va_up]; rfl) | (simp [va_up]; rfl)) ?_
    refine v_iastore (len := 6) (j := i) dX9_save_58 rfl (ltn rfl) rfl (by decide) rfl (by omega) ?_
    refine v_aload_n dX9_save_59 rfl 1 rfl ?_
    refine v_get (v := .ref (g.1 + 88)) fa_X9_114 dX9_save_60 rfl (by decide) (ltn rfl) rfl ?_
    refine v_iload_n dX9_save_63 rfl 0 rfl ?_
    refine v_aload_n dX9_save_64 rfl 1 rfl ?_
    refine v_get (v := .ref (g.1 + 72)) fa_X9_35 dX9_save_65 rfl (by decide) (ltn rfl) rfl ?_
    refine v_iload_n dX9_save_68 rfl 0 rfl ?_
    refine v_iaload (len := 6) (j := i) dX9_save_69 rfl (ltn rfl) rfl (by decide) rfl (by omega) ?_
    refine v_is (y := I 72 i) (by first | (rfl) | (simp only [va_up]; rfl) | (simp [va_up]; rfl)) ?_
    refine v_iastore (len := 6) (j := i) dX9_save_70 rfl (ltn rfl) rfl (by decide) rfl (by omega) ?_
    refine v_inc (v := nI (i + 1)) (lv2 := [(1, .int (nI (i + 1))), (0, .ref (g.1 + 65))]) dX9_save_71 0 rfl (nx_inc rfl) (by decide) rfl ?_
    refine v_goto (tgt := 17) dX9_save_74 (by decide) ?_
    refine v_I (I2 := (svI I (i + 1))) (by exact svI_s I i) ?_
    exact ih
set_option maxRecDepth 100000 in
set_option maxHeartbeats 400000 in
theorem c_X9_putBack {g : Gl} {I : Ty} {L : TL} {na nt ni m : Nat} {nl : Nat → Nat}   : Ct g yX9_putBack cX9_putBack 2 none 0 0 0 [.ref (g.1 + 65)] I L (RT na nt ni) (NT nl) (NB + m) (Ps none (pbd I) L (RT na nt ni) (NT nl) (NB + m)) := by
  refine ct_of (by decide +kernel) (Nat.le_of_ble_eq_true rfl) (fun F hnm hr => ?_)
  clear hnm
  show V g F cX9_putBack RX9 2 0 0 [(0, .ref (g.1 + 65))] [] I L (RT na nt ni) (NT nl) (NB + m) 0 0
  refine v_aload_n dX9_putBack_0 rfl 0 rfl ?_
  refine v_sipush (v := 9999) dX9_putBack_1 (by decide) ?_
  refine v_puti pa_X9_99 dX9_putBack_4 rfl (by decide) (ltn rfl) (by show 29 < 73; decide) rfl ?_
  refine v_aload_n dX9_putBack_7 rfl 0 rfl ?_
  refine v_aload_n dX9_putBack_8 rfl 0 rfl ?_
  refine v_get (v := .int (I 65 30)) fa_X9_102 dX9_putBack_9 rfl (by decide) (ltn rfl) rfl ?_
  refine v_puti pa_X9_13 dX9_putBack_12 rfl (by decide) (ltn rfl) (by show 1 < 73; decide) rfl ?_
  refine v_iconst (v := 0) dX9_putBack_15 (by decide) ?_
  refine v_istore_n (lv2 := [(1, .int 0), (0, .ref (g.1 + 65))]) dX9_putBack_16 rfl (by decide) rfl ?_
  refine v_lv (lv2 := [(1, .int (nI 0)), (0, .ref (g.1 + 65))]) (by rfl) ?_
  refine v_I (I2 := (pbI I 0)) (by exact (pbI_0 I).symm) ?_
  refine dloop (P := fun i => V g F cX9_putBack RX9 2 0 17 [(1, .int (nI i)), (0, .ref (g.1 + 65))] [] (pbI I i) L (RT na nt ni) (NT nl) (NB + m) 0 0) 6 ?_ ?_ 0 (Nat.zero_le _)
  · refine v_iload_n dX9_putBack_17 rfl 0 rfl ?_
    refine v_bipush (v := 6) dX9_putBack_18 (by decide) ?_
    refine v_icmp_geN (a := 6) (b := 6) (tgt := 77) dX9_putBack_20 (by decide) rfl rfl (by omega) (by omega) (fun h1 => ?_) (fun h => by exfalso; omega)
    exact v_vret hr dX9_putBack_77 (psv rfl)
  · intro i hi ih
    refine v_iload_n dX9_putBack_17 rfl 0 rfl ?_
    refine v_bipush (v := 6) dX9_putBack_18 (by decide) ?_
    refine v_icmp_geN (a := i) (b := 6) (tgt := 77) dX9_putBack_20 (by decide) rfl rfl (by omega) (by omega) (fun h => by exfalso; omega) (fun h2 => ?_)
    refine v_aload_n dX9_putBack_23 rfl 1 rfl ?_
    refine v_get (v := .ref (g.1 + 69)) fa_X9_26 dX9_putBack_24 rfl (by decide) (ltn rfl) rfl ?_
    refine v_iload_n dX9_putBack_27 rfl 0 rfl ?_
    refine v_aload_n dX9_putBack_28 rfl 1 rfl ?_
    refine v_get (v := .ref (g.1 + 85)) fa_X9_105 dX9_putBack_29 rfl (by decide) (ltn rfl) rfl ?_
    refine v_iload_n dX9_putBack_32 rfl 0 rfl ?_
    refine v_iaload (len := 6) (j := i) dX9_putBack_33 rfl (ltn rfl) rfl (by decide) rfl (by omega) ?_
    refine v_is (y := I 85 i) (by rfl) ?_
    refine v_iastore (len := 6) (j := i) dX9_putBack_34 rfl (ltn rfl) rfl (by decide) rfl (by omega) ?_
    refine v_aload_n dX9_putBack_35 rfl 1 rfl ?_
    refine v_get (v := .ref (g.1 + 70)) fa_X9_29 dX9_putBack_36 rfl (by decide) (ltn rfl) rfl ?_
    refine v_iload_n dX9_putBack_39 rfl 0 rfl ?_
    refine v_aload_n dX9_putBack_40 rfl 1 rfl ?_
    refine v_get (v := .ref (g.1 + 86)) fa_X9_108 dX9_putBack_41 rfl (by decide) (ltn rfl) rfl ?_
    refine v_iload_n dX9_putBack_44 rfl 0 rfl ?_
    refine v_iaload (len := 6) (j := i) dX9_putBack_45 rfl (ltn rfl) rfl (by decide) rfl (by omega) ?_
    refine v_is (y := I 86 i) (by first | (rfl) | (simp only [va_up]; rfl) | (simp [va_up]; rfl)) ?_
    refine v_iastore (len := 6) (j := i) dX9_putBack_46 rfl (ltn rfl) rfl (by decide) rfl (by omega) ?_
    refine v_aload_n dX9_putBack_47 rfl 1 rfl ?_
    refine v_get (v := .ref (g.1 + 71)) fa_X9_32 dX9_putBack_48 rfl (by decide) (ltn rfl) rfl ?_
    refine v_iload_n dX9_putBack_51 rfl 0 rfl ?_
    refine v_aload_n dX9_putBack_52 rfl 1 rfl ?_
    refine v_get (v := .ref (g.1 + 87)) fa_X9_111 dX9_putBack_53 rfl (by decide) (ltn rfl) rfl ?_
    refine v_iload_n dX9_putBack_56 rfl 0 rfl ?_
    refine v_iaload (len := 6) (j := i) dX9_putBack_57 rfl (ltn rfl) rfl (by decide) rfl (by omega) ?_
    refine v_is (y := I 87 i) (by first | (rfl) | (simp only [va_up]; rfl) | (simp [va_up]; rfl)) ?_
    refine v_iastore (len := 6) (j := i) dX9_putBack_58 rfl (ltn rfl) rfl (by decide) rfl (by omega) ?_
    refine v_aload_n dX9_putBack_59 rfl 1 rfl ?_
    refine v_get (v := .ref (g.1 + 72)) fa_X9_35 dX9_putBack_60 rfl (by decide) (ltn rfl) rfl ?_
    refine v_iload_n dX9_putBack_63 rfl 0 rfl ?_
    refine v_aload_n dX9_putBack_64 rfl 1 rfl ?_
    refine v_get (v := .ref (g.1 + 88)) fa_X9_114 dX9_putBack_65 rfl (by decide) (ltn rfl) rfl ?_
    refine v_iload_n dX9_putBack_68 rfl 0 rfl ?_
    refine v_iaload (len := 6) (j := i) dX9_putBack_69 rfl (ltn rfl) rfl (by decide) rfl (by omega) ?_
    refine v_is (y := I 88 i) (by first | (rfl) | (simp only [va_up]; rfl) | (simp [va_up]; rfl)) ?_
    refine v_iastore (len := 6) (j := i) dX9_putBack_70 rfl (ltn rfl) rfl (by decide) rfl (by omega) ?_
    refine v_inc (v := nI (i + 1)) (lv2 := [(1, .int (nI (i + 1))), (0, .ref (g.1 + 65))]) dX9_putBack_71 0 rfl (nx_inc rfl) (by decide) rfl ?_
    refine v_goto (tgt := 17) dX9_putBack_74 (by decide) ?_
    refine v_I (I2 := (pbI I (i + 1))) (by exact pbI_s I i) ?_
    exact ih
/-- beyond the six nothing is ever told -/
def offT (s t : T3) : Prop := ∀ j, 6 ≤ j → s.1 j = t.1 j ∧ s.2.1 j = t.2.1 j ∧ s.2.2 j = t.2.2 j
section
variable {ga kd vv gl rw : Nat → Int32} {pp : Nat} {ns : (Int32 → Int32) → Int32 → Int32} {fd : Int32} {less : Int32 → Int32}
theorem go1_off {ho : Int32} {s t : T3} {p : Nat} (hp : p < 6) (h : offT s t) : offT (go1 ga kd vv gl rw pp ns ho less s p) t := by
  unfold go1
  by_cases h1 : gl p < 0
  · rw [ifc_t h1]; exact h
  · rw [ifc_f h1]
    by_cases h2 : gl p = s.1 p
    · rw [ifc_t h2]; exact h
    · rw [ifc_f h2]
      by_cases h3 : lw (s.2.1 p) (tn (s.1 p)) (tn (gl p)) < 0
      · rw [ifc_t h3]; exact h
      · rw [ifc_f h3]
        by_cases h4 : 0 < Wl ga kd vv rw pp ns ho s.1 s.2.1 p (fstC (s.2.1 p) (tn (s.1 p)) (tn (gl p)))
        · rw [ifc_t h4]
          exact fun j hj => ⟨(up_off _ _ (by omega)).trans (h j hj).1, (h j hj).2⟩
        · rw [ifc_f h4]
          exact fun j hj => ⟨(h j hj).1, (up_off _ _ (by omega)).trans (h j hj).2.1, (up_off _ _ (by omega)).trans (h j hj).2.2⟩
theorem goN_off {ho : Int32} {s : T3} : ∀ i, i ≤ 6 → offT (goN ga kd vv gl rw pp ns less ho s i) s
  | 0, _ => fun _ _ => ⟨rfl, rfl, rfl⟩
  | i + 1, hi => go1_off (by omega) (goN_off i (by omega))
theorem hour1_off {z : ZH} {t : T3} (hpp : pp ≤ 6) (h : offT z.1 t) : offT (hour1 ga kd vv gl rw pp ns fd less z).1 t := by
  have h2 : offT (goN ga kd vv gl rw pp ns less z.2 z.1 pp) t := fun j hj => ⟨((goN_off pp hpp) j hj).1.trans (h j hj).1, ((goN_off pp hpp) j hj).2.1.trans (h j hj).2.1, ((goN_off pp hpp) j hj).2.2.trans (h j hj).2.2⟩
  by_cases hc : 0 < fd ∧ z.2 - z.2 / fd * fd = 0
  · rw [hour1_t hc]
    refine fun j hj => ⟨(h2 j hj).1, ?_, (h2 j hj).2.2⟩
    dsimp only
    unfold cpn
    rw [if_neg (by omega)]
    exact (h2 j hj).2.1
  · rw [hour1_f hc]; exact h2
theorem hrN_off {z : ZH} (hpp : pp ≤ 6) : ∀ i, offT (hrN ga kd vv gl rw pp ns fd less z i).1 z.1
  | 0 => fun _ _ => ⟨rfl, rfl, rfl⟩
  | i + 1 => hour1_off hpp (hrN_off hpp i)
end
theorem pb_trial {I : Ty} (hM : I 65 29 = 9999) (z : ZH) (f h : Nat → Int32) (ho : offT z.1 (mget I)) : pbd (scr (mputH (svd I) z) f h) = sck I (scr (mputH (svd I) z) f h) (I 65 1) := by
  have e : (scr (mputH (svd I) z) f h) 65 30 = I 65 1 := rfl
  rw [← e]
  refine pb_gen hM ?_ ?_ ?_
  · intro a h1 h2 h3 h4 h5 h6 h7
    rw [scr_off _ _ _ _ h6 h7]
    show va_up (mput (svd I) z.1) 65 _ a = _
    rw [up_off _ _ h1]
    show va_up (va_up (va_up (svd I) 69 _) 71 _) 72 _ a = _
    rw [up_off _ _ h5, up_off _ _ h4, up_off _ _ h2]
  · intro j hj
    show va_up (svd I 65) 1 z.2 j = svd I 65 j
    rw [up_off _ _ hj]
  · intro j hj
    exact ⟨(ho j hj).1, rfl, (ho j hj).2.1, (ho j hj).2.2⟩
set_option maxRecDepth 100000 in
set_option maxHeartbeats 4000000 in
theorem c_X9_arrives {g : Gl} {I : Ty} {L : TL} {na nt ni m : Nat} {nl : Nat → Nat} (p : Nat) (pp : Nat) (hpp : pp ≤ 6) (hpe : I 65 0 = nI pp) (hp : p < 6) (hN : mOK I) (hS : okS (mget I)) (hG : okG (I 70)) (hM : I 65 29 = 9999) : Ct g yX9_arrives cX9_arrives 3 (some .int) 6 0 0 [.ref (g.1 + 65), .int (nI p)] I L (RT na nt ni) (NT nl) (NB + m) (Pk (some (.int (ifc (I 70 p < 0) 41 (nI (frst (fun k => (hrN (I 66) (I 67) (I 68) (I 70) (I 73) pp (msum I) (mfade I) (lessM 2000000000) (mgetH I) k).1.1 p = I 70 p) 41))))) (I) L (RT na nt ni) (NT nl) (NB + m)) := by
  refine ct_of (by decide +kernel) (Nat.le_of_ble_eq_true rfl) (fun F hnm hr => ?_)
  clear hnm
  show V g F cX9_arrives RX9 3 6 0 [(0, .ref (g.1 + 65)), (1, .int (nI p))] [] I L (RT na nt ni) (NT nl) (NB + m) 0 0
  obtain ⟨sz, hsz, hes⟩ := hS p hp
  refine v_aload_n dX9_arrives_0 rfl 0 rfl ?_
  refine v_get (v := .ref (g.1 + 70)) fa_X9_29 dX9_arrives_1 rfl (by decide) (ltn rfl) rfl ?_
  refine v_iload_n dX9_arrives_4 rfl 1 rfl ?_
  refine v_iaload (len := 6) (j := p) dX9_arrives_5 rfl (ltn rfl) rfl (by decide) rfl (by omega) ?_
  refine v_if_ge (tgt := 12) dX9_arrives_6 (by decide) (fun h2 => ?_) (fun h2 => ?_)
  · have hgn := Int32.not_lt.mpr h2
    obtain ⟨gz, hgz, heg⟩ := (hG p hp).resolve_left hgn
    refine v_aload_n dX9_arrives_12 rfl 0 rfl ?_
    refine v_callVv (As := []) (rest := []) lk_X9_359 (c_X9_save) dX9_arrives_13 rfl (ltn rfl) rfl rfl (Nat.le_of_ble_eq_true rfl) (by decide) ?_
    refine v_iconst (v := 0) dX9_arrives_16 (by decide) ?_
    refine v_istore_n (lv2 := [(2, .int 0), (0, .ref (g.1 + 65)), (1, .int (nI p))]) dX9_arrives_17 rfl (by decide) rfl ?_
    refine v_lv (lv2 := [(2, .int (nI 0)), (0, .ref (g.1 + 65)), (1, .int (nI p))]) (by rfl) ?_
    refine v_I (I2 := (scr (mputH (svd I) (hrN (I 66) (I 67) (I 68) (I 70) (I 73) pp (msum I) (mfade I) (lessM 2000000000) (mgetH I) 0)) (I 83) (I 84))) (by show svd I = scr (mputH (svd I) (mgetH (svd I))) ((svd I) 83) ((svd I) 84); rw [mputH_self]; exact scr_self _) ?_
    refine dloop (P := fun i => ∀ (fq hq : Nat → Int32), (∀ j, j < i → ¬ (hrN (I 66) (I 67) (I 68) (I 70) (I 73) pp (msum I) (mfade I) (lessM 2000000000) (mgetH I) j).1.1 p = I 70 p) → V g F cX9_arrives RX9 3 6 18 [(2, .int (nI i)), (0, .ref (g.1 + 65)), (1, .int (nI p))] [] (scr (mputH (svd I) (hrN (I 66) (I 67) (I 68) (I 70) (I 73) pp (msum I) (mfade I) (lessM 2000000000) (mgetH I) i)) fq hq) L (RT na nt ni) (NT nl) (NB + m) 0 0) 41 ?_ ?_ 0 (Nat.zero_le _) (I 83) (I 84) (fun j h => absurd h (Nat.not_lt_zero j))
    · intro fq hq
      intro hinv
      refine v_iload_n dX9_arrives_18 rfl 0 rfl ?_
      refine v_bipush (v := 41) dX9_arrives_19 (by decide) ?_
      refine v_icmp_geN (a := 41) (b := 41) (tgt := 49) dX9_arrives_21 (by decide) rfl rfl (by omega) (by omega) (fun h3 => ?_) (fun h => by exfalso; omega)
      refine v_aload_n dX9_arrives_49 rfl 1 rfl ?_
      refine v_callVv (As := []) (rest := []) lk_X9_362 (c_X9_putBack (I := (scr (mputH (svd I) (hrN (I 66) (I 67) (I 68) (I 70) (I 73) pp (msum I) (mfade I) (lessM 2000000000) (mgetH I) 41)) fq hq))) dX9_arrives_50 rfl (ltn rfl) rfl rfl (Nat.le_of_ble_eq_true rfl) (by decide) ?_
      refine v_I (pb_trial hM _ _ _ (hrN_off hpp _)) ?_
      refine v_iload_n dX9_arrives_53 rfl 0 rfl ?_
      exact v_iret hr dX9_arrives_54 (⟨by rw [ifc_f hgn, frst_eq (i := 41) (Nat.le_refl _) (Or.inl rfl) hinv], ⟨_, _, rfl⟩, rfl, rfl, rfl, rfl⟩)
    · intro i hi ih
      intro fq hq
      intro hinv
      obtain ⟨cz, hcz, hce⟩ := hrN_ok (ga := I 66) (kd := I 67) (vv := I 68) (rw := I 73) (pp := pp) (ns := msum I) (fd := mfade I) (less := lessM 2000000000) (z := mgetH I) hpp hS hG i p hp
      refine v_iload_n dX9_arrives_18 rfl 0 rfl ?_
      refine v_bipush (v := 41) dX9_arrives_19 (by decide) ?_
      refine v_icmp_geN (a := i) (b := 41) (tgt := 49) dX9_arrives_21 (by decide) rfl rfl (by omega) (by omega) (fun h => by exfalso; omega) (fun h4 => ?_)
      refine v_aload_n dX9_arrives_24 rfl 1 rfl ?_
      refine v_get (v := .ref (g.1 + 69)) fa_X9_26 dX9_arrives_25 rfl (by decide) (ltn rfl) rfl ?_
      refine v_iload_n dX9_arrives_28 rfl 2 rfl ?_
      refine v_iaload (len := 6) (j := p) dX9_arrives_29 rfl (ltn rfl) rfl (by decide) rfl (by omega) ?_
      refine v_is (y := (hrN (I 66) (I 67) (I 68) (I 70) (I 73) pp (msum I) (mfade I) (lessM 2000000000) (mgetH I) i).1.1 p) (by rfl) ?_
      refine v_is (y := nI cz) hce ?_
      refine v_aload_n dX9_arrives_30 rfl 1 rfl ?_
      refine v_get (v := .ref (g.1 + 70)) fa_X9_29 dX9_arrives_31 rfl (by decide) (ltn rfl) rfl ?_
      refine v_iload_n dX9_arrives_34 rfl 2 rfl ?_
      refine v_iaload (len := 6) (j := p) dX9_arrives_35 rfl (ltn rfl) rfl (by decide) rfl (by omega) ?_
      refine v_is (y := I 70 p) (by rfl) ?_
      refine v_is (y := nI gz) heg ?_
      refine v_icmp_eqN (a := cz) (b := gz) (tgt := 49) dX9_arrives_36 (by decide) rfl rfl (by omega) (by omega) (fun h5 => ?_) (fun h5 => ?_)
      · -- cz eq gz
        refine v_aload_n dX9_arrives_49 rfl 1 rfl ?_
        refine v_callVv (As := []) (rest := []) lk_X9_362 (c_X9_putBack (I := (scr (mputH (svd I) (hrN (I 66) (I 67) (I 68) (I 70) (I 73) pp (msum I) (mfade I) (lessM 2000000000) (mgetH I) i)) fq hq))) dX9_arrives_50 rfl (ltn rfl) rfl rfl (Nat.le_of_ble_eq_true rfl) (by decide) ?_
        refine v_I (pb_trial hM _ _ _ (hrN_off hpp _)) ?_
        refine v_iload_n dX9_arrives_53 rfl 0 rfl ?_
        exact v_iret hr dX9_arrives_54 (⟨by rw [ifc_f hgn, frst_eq (i := i) (by omega) (Or.inr (by rw [hce, heg, h5])) hinv], ⟨_, _, rfl⟩, rfl, rfl, rfl, rfl⟩)
      · -- cz ne gz
        refine v_aload_n dX9_arrives_39 rfl 1 rfl ?_
        refine v_callVqv (As := []) (rest := []) lk_X9_349 (c_X9_goHour (I := (scr (mputH (svd I) (hrN (I 66) (I 67) (I 68) (I 70) (I 73) pp (msum I) (mfade I) (lessM 2000000000) (mgetH I) i)) fq hq)) pp hpp hpe hN (hrN_ok (z := mgetH I) hpp hS hG i) hG) dX9_arrives_40 rfl (ltn rfl) rfl rfl (Nat.le_of_ble_eq_true rfl) (by decide) (fun fq6 hq7 => ?_)
        refine v_I (mputH_norm _ _ _ _ _ _ _) ?_
        refine v_inc (v := nI (i + 1)) (lv2 := [(2, .int (nI (i + 1))), (0, .ref (g.1 + 65)), (1, .int (nI p))]) dX9_arrives_43 0 rfl (nx_inc rfl) (by decide) rfl ?_
        refine v_goto (tgt := 18) dX9_arrives_46 (by decide) ?_
        exact ih _ _ (ks_step hinv (fun e => h5 ((nI_eq (by omega) (by omega)).mp (by rw [← hce, ← heg]; exact e))))
  · refine v_bipush (v := 41) dX9_arrives_9 (by decide) ?_
    exact v_iret hr dX9_arrives_11 (⟨by rw [ifc_t (Int32.not_le.mp h2)], ⟨_, _, sck_self I⟩, rfl, rfl, rfl, rfl⟩)
section
variable {g : Gl} {F : Fx} {cc : ByteArray} {own : String} {nL d pc : Nat} {lv : List (Nat × Value)} {st : List Value} {I : Ty} {L : TL} {R : TR} {N : TN} {n kr sr : Nat}
theorem v_callVki {index na mL dc k ci : Nat} {y : MethodName} {bytes : ByteArray} {ret : Option FieldType} {As rest : List Value} {r : Int32} {I0 : Ty} {L0 : TL} {R0 : TR} {N0 : TN} {n0 : Nat} (hl : LkV own index y bytes mL ret na ci) (hM : Ct g y bytes mL ret dc 0 0 (.ref (g.1 + k) :: As) I L R N n (Pk (some (.int r)) I0 L0 R0 N0 n0)) (hd : decode cc pc = .ok (.invokevirtual index, 3)) (hk : kd k = ci) (hn : k < n) (hna : As.length = na) (hst : st = As.reverse ++ .ref (g.1 + k) :: rest) (hrest : rest.length ≤ 4) (hdc : dc + 1 ≤ d)
    (kk : ∀ kp kh, V g F cc own nL d (pc + 3) lv (.int r :: rest) (sck I0 kp kh) L0 R0 N0 n0 kr sr) : V g F cc own nL d pc lv st I L R N n kr sr :=
  v_callV hl hM hd hk hn hna hst hrest hdc (Nat.zero_le _) (Nat.zero_le _) (fun v I' L' R' N' n' h => by obtain ⟨rfl, ⟨f, h, rfl⟩, rfl, rfl, rfl, rfl⟩ := h; exact kk f h)
theorem v_callVkl {index na mL dc k ci : Nat} {y : MethodName} {bytes : ByteArray} {ret : Option FieldType} {As rest : List Value} {r : Int64} {I0 : Ty} {L0 : TL} {R0 : TR} {N0 : TN} {n0 : Nat} (hl : LkV own index y bytes mL ret na ci) (hM : Ct g y bytes mL ret dc 0 0 (.ref (g.1 + k) :: As) I L R N n (Pk (some (.long r)) I0 L0 R0 N0 n0)) (hd : decode cc pc = .ok (.invokevirtual index, 3)) (hk : kd k = ci) (hn : k < n) (hna : As.length = na) (hst : st = As.reverse ++ .ref (g.1 + k) :: rest) (hrest : rest.length ≤ 4) (hdc : dc + 1 ≤ d)
    (kk : ∀ kp kh, V g F cc own nL d (pc + 3) lv (.long r :: rest) (sck I0 kp kh) L0 R0 N0 n0 kr sr) : V g F cc own nL d pc lv st I L R N n kr sr :=
  v_callV hl hM hd hk hn hna hst hrest hdc (Nat.zero_le _) (Nat.zero_le _) (fun v I' L' R' N' n' h => by obtain ⟨rfl, ⟨f, h, rfl⟩, rfl, rfl, rfl, rfl⟩ := h; exact kk f h)
theorem v_callVkv {index na mL dc k ci : Nat} {y : MethodName} {bytes : ByteArray} {ret : Option FieldType} {As rest : List Value}  {I0 : Ty} {L0 : TL} {R0 : TR} {N0 : TN} {n0 : Nat} (hl : LkV own index y bytes mL ret na ci) (hM : Ct g y bytes mL ret dc 0 0 (.ref (g.1 + k) :: As) I L R N n (Pk none I0 L0 R0 N0 n0)) (hd : decode cc pc = .ok (.invokevirtual index, 3)) (hk : kd k = ci) (hn : k < n) (hna : As.length = na) (hst : st = As.reverse ++ .ref (g.1 + k) :: rest) (hrest : rest.length ≤ 4) (hdc : dc + 1 ≤ d)
    (kk : ∀ kp kh, V g F cc own nL d (pc + 3) lv rest (sck I0 kp kh) L0 R0 N0 n0 kr sr) : V g F cc own nL d pc lv st I L R N n kr sr :=
  v_callV hl hM hd hk hn hna hst hrest hdc (Nat.zero_le _) (Nat.zero_le _) (fun v I' L' R' N' n' h => by obtain ⟨rfl, ⟨f, h, rfl⟩, rfl, rfl, rfl, rfl⟩ := h; exact kk f h)
end
/-- behind how many hours one is there, 41 never -/
noncomputable def arvN (ga : Nat → Int32) (I : Ty) (pp p : Nat) : Nat := ifc (I 70 p < 0) 41 (frst (fun k => (hrN ga (I 67) (I 68) (I 70) (I 73) pp (msum I) (mfade I) (lessM 2000000000) (mgetH I) k).1.1 p = I 70 p) 41)
theorem arvN_eq (ga : Nat → Int32) (I : Ty) (pp p : Nat) : ifc (I 70 p < 0) 41 (nI (frst (fun k => (hrN ga (I 67) (I 68) (I 70) (I 73) pp (msum I) (mfade I) (lessM 2000000000) (mgetH I) k).1.1 p = I 70 p) 41)) = nI (arvN ga I pp p) := by
  unfold arvN
  by_cases h : I 70 p < 0
  · rw [ifc_t h, ifc_t h]; rfl
  · rw [ifc_f h, ifc_f h]
theorem arvN_le (ga : Nat → Int32) (I : Ty) (pp p : Nat) : arvN ga I pp p ≤ 41 := by
  unfold arvN
  by_cases h : I 70 p < 0
  · rw [ifc_t h]; exact Nat.le_refl _
  · rw [ifc_f h]; exact frst_le _ _
set_option maxRecDepth 100000 in
set_option maxHeartbeats 400000 in
theorem c_X9_there {g : Gl} {I : Ty} {L : TL} {na nt ni m : Nat} {nl : Nat → Nat} (p : Nat) (pp : Nat) (hpp : pp ≤ 6) (hpe : I 65 0 = nI pp) (hp : p < 6) (hN : mOK I) (hS : okS (mget I)) (hG : okG (I 70)) (hM : I 65 29 = 9999) : Ct g yX9_there cX9_there 3 (some .int) 7 0 0 [.ref (g.1 + 65), .int (nI p)] I L (RT na nt ni) (NT nl) (NB + m) (Pk (some (.int (ifc (arvN (I 66) I pp p < 41) (nI (arvN (I 66) I pp p)) (-5)))) (I) L (RT na nt ni) (NT nl) (NB + m)) := by
  refine ct_of (by decide +kernel) (Nat.le_of_ble_eq_true rfl) (fun F hnm hr => ?_)
  clear hnm
  show V g F cX9_there RX9 3 7 0 [(0, .ref (g.1 + 65)), (1, .int (nI p))] [] I L (RT na nt ni) (NT nl) (NB + m) 0 0
  refine v_aload_n dX9_there_0 rfl 0 rfl ?_
  refine v_iload_n dX9_there_1 rfl 1 rfl ?_
  refine v_callVki (As := [.int (nI p)]) (rest := []) lk_X9_365 (c_X9_arrives p pp hpp hpe hp hN hS hG hM) dX9_there_2 rfl (ltn rfl) rfl rfl (Nat.le_of_ble_eq_true rfl) (by decide) (fun fq1 hq2 => ?_)
  refine v_is (arvN_eq (I 66) I pp p) ?_
  have av3 := arvN_le (I 66) I pp p
  refine v_istore_n (lv2 := [(2, .int (nI (arvN (I 66) I pp p))), (0, .ref (g.1 + 65)), (1, .int (nI p))]) dX9_there_5 rfl (by decide) rfl ?_
  refine v_iload_n dX9_there_6 rfl 0 rfl ?_
  refine v_bipush (v := 41) dX9_there_7 (by decide) ?_
  refine v_icmp_geN (a := (arvN (I 66) I pp p)) (b := 41) (tgt := 16) dX9_there_9 (by decide) rfl rfl (by omega) (by omega) (fun h4 => ?_) (fun h4 => ?_)
  · -- (arvN (I 66) I pp p) ge 41
    refine v_bipush (v := (-5)) dX9_there_16 (by decide) ?_
    exact v_iret hr dX9_there_18 (⟨congrArg (fun z => some (Value.int z)) (by first | rfl | (simp only [bq, ifc_T, ifc_F, inr_m1, and_true, true_and, and_false, false_and, or_true, true_or, or_false, false_or, not_true_eq_false, not_false_eq_true, and_self, or_self, h4]; done) | (simp [bq, ifc_T, ifc_F, inr_m1, h4]; done) | ((try simp only [bq]); repeat (first | rfl | (refine eq_t ?_ ?_; focus (first | omega | assumption | (simp [inr_m1, h4]; done) | (simp [inr_m1, h4]; omega) | (clear hr; (try clear hkn); simp_all; done))) | (refine eq_f ?_ ?_; focus (first | omega | assumption | (simp [inr_m1, h4]; done) | (simp [inr_m1, h4]; omega) | (clear hr; (try clear hkn); simp_all; done))) | (exfalso; clear hr; (try clear hkn); simp_all; done)))), ⟨_, _, rfl⟩, rfl, rfl, rfl, rfl⟩)
  · -- (arvN (I 66) I pp p) lt 41
    refine v_iload_n dX9_there_12 rfl 0 rfl ?_
    refine v_goto (tgt := 18) dX9_there_13 (by decide) ?_
    exact v_iret hr dX9_there_18 (⟨congrArg (fun z => some (Value.int z)) (by first | rfl | (simp only [bq, ifc_T, ifc_F, inr_m1, and_true, true_and, and_false, false_and, or_true, true_or, or_false, false_or, not_true_eq_false, not_false_eq_true, and_self, or_self, h4]; done) | (simp [bq, ifc_T, ifc_F, inr_m1, h4]; done) | ((try simp only [bq]); repeat (first | rfl | (refine eq_t ?_ ?_; focus (first | omega | assumption | (simp [inr_m1, h4]; done) | (simp [inr_m1, h4]; omega) | (clear hr; (try clear hkn); simp_all; done))) | (refine eq_f ?_ ?_; focus (first | omega | assumption | (simp [inr_m1, h4]; done) | (simp [inr_m1, h4]; omega) | (clear hr; (try clear hkn); simp_all; done))) | (exfalso; clear hr; (try clear hkn); simp_all; done)))), ⟨_, _, rfl⟩, rfl, rfl, rfl, rfl⟩)
theorem ga_back (I : Ty) (c : Nat) (x : Int32) (kp : Ty) (kh : Int32) : va_up (sck (wr I 66 c x) kp kh) 66 (va_up ((sck (wr I 66 c x) kp kh) 66) c (I 66 c)) = sck I kp kh := by
  have e : va_up ((sck (wr I 66 c x) kp kh) 66) c (I 66 c) = I 66 := by
    show va_up (va_up (I 66) c x) c (I 66 c) = I 66
    rw [up_up, up_self]
  rw [e]
  funext a
  by_cases h : a = 66
  · subst h; rfl
  · rw [up_off _ _ h]
    unfold sck
    by_cases h1 : 83 ≤ a ∧ a ≤ 88
    · rw [if_pos h1, if_pos h1]
    · rw [if_neg h1, if_neg h1]
      by_cases h2 : a = 65
      · subst h2; rfl
      · rw [if_neg h2, if_neg h2]
        exact up_off _ _ h
set_option maxRecDepth 100000 in
set_option maxHeartbeats 400000 in
theorem c_X9_arrivesBy {g : Gl} {I : Ty} {L : TL} {na nt ni m : Nat} {nl : Nat → Nat} (p : Nat) (cz : Nat) (hcz : cz < 16) (pp : Nat) (hpp : pp ≤ 6) (hpe : I 65 0 = nI pp) (hp : p < 6) (hN : mOK I) (hS : okS (mget I)) (hG : okG (I 70)) (hM : I 65 29 = 9999) : Ct g yX9_arrivesBy cX9_arrivesBy 5 (some .int) 7 0 0 [.ref (g.1 + 65), .int (nI p), .int (nI cz)] I L (RT na nt ni) (NT nl) (NB + m) (Pk (some (.int (nI (arvN (va_up (I 66) cz 9) I pp p)))) (I) L (RT na nt ni) (NT nl) (NB + m)) := by
  refine ct_of (by decide +kernel) (Nat.le_of_ble_eq_true rfl) (fun F hnm hr => ?_)
  clear hnm
  show V g F cX9_arrivesBy RX9 5 7 0 [(0, .ref (g.1 + 65)), (1, .int (nI p)), (2, .int (nI cz))] [] I L (RT na nt ni) (NT nl) (NB + m) 0 0
  refine v_aload_n dX9_arrivesBy_0 rfl 0 rfl ?_
  refine v_get (v := .ref (g.1 + 66)) fa_X9_16 dX9_arrivesBy_1 rfl (by decide) (ltn rfl) rfl ?_
  refine v_iload_n dX9_arrivesBy_4 rfl 2 rfl ?_
  refine v_iaload (len := 16) (j := cz) dX9_arrivesBy_5 rfl (ltn rfl) rfl (by decide) rfl (by omega) ?_
  refine v_istore_n (lv2 := [(3, .int (I 66 cz)), (0, .ref (g.1 + 65)), (1, .int (nI p)), (2, .int (nI cz))]) dX9_arrivesBy_6 rfl (by decide) rfl ?_
  refine v_aload_n dX9_arrivesBy_7 rfl 1 rfl ?_
  refine v_get (v := .ref (g.1 + 66)) fa_X9_16 dX9_arrivesBy_8 rfl (by decide) (ltn rfl) rfl ?_
  refine v_iload_n dX9_arrivesBy_11 rfl 3 rfl ?_
  refine v_bipush (v := 9) dX9_arrivesBy_12 (by decide) ?_
  refine v_iastore (len := 16) (j := cz) dX9_arrivesBy_14 rfl (ltn rfl) rfl (by decide) rfl (by omega) ?_
  refine v_aload_n dX9_arrivesBy_15 rfl 1 rfl ?_
  refine v_iload_n dX9_arrivesBy_16 rfl 2 rfl ?_
  refine v_callVki (As := [.int (nI p)]) (rest := []) lk_X9_365 (c_X9_arrives (I := (wr I 66 cz 9)) p pp hpp hpe hp hN hS hG hM) dX9_arrivesBy_17 rfl (ltn rfl) rfl rfl (Nat.le_of_ble_eq_true rfl) (by decide) (fun fq1 hq2 => ?_)
  refine v_is (y := ifc (I 70 p < 0) 41 (nI (frst (fun k => (hrN (va_up (I 66) cz 9) (I 67) (I 68) (I 70) (I 73) pp (msum I) (mfade I) (lessM 2000000000) (mgetH I) k).1.1 p = I 70 p) 41))) rfl ?_
  refine v_is (arvN_eq (va_up (I 66) cz 9) I pp p) ?_
  have av3 := arvN_le (va_up (I 66) cz 9) I pp p
  refine v_istore (lv2 := [(4, .int (nI (arvN (va_up (I 66) cz 9) I pp p))), (3, .int (I 66 cz)), (0, .ref (g.1 + 65)), (1, .int (nI p)), (2, .int (nI cz))]) dX9_arrivesBy_20 (by decide) rfl ?_
  refine v_aload_n dX9_arrivesBy_22 rfl 2 rfl ?_
  refine v_get (v := .ref (g.1 + 66)) fa_X9_16 dX9_arrivesBy_23 rfl (by decide) (ltn rfl) rfl ?_
  refine v_iload_n dX9_arrivesBy_26 rfl 4 rfl ?_
  refine v_iload_n dX9_arrivesBy_27 rfl 1 rfl ?_
  refine v_iastore (len := 16) (j := cz) dX9_arrivesBy_28 rfl (ltn rfl) rfl (by decide) rfl (by omega) ?_
  refine v_iload dX9_arrivesBy_29 0 rfl ?_
  exact v_iret hr dX9_arrivesBy_31 (⟨rfl, ⟨_, _, ga_back I cz 9 _ _⟩, rfl, rfl, rfl, rfl⟩)
