/-- w rows from d on have their first k places from those at s -/
def cpB (I : Ty) (d s w k : Nat) : Ty := fun a => if d ≤ a ∧ a < d + w then (fun j => if j < k then I (a - d + s) j else I a j) else I a
def cpq (I : Ty) (d s w k q : Nat) : Ty := fun a => if d ≤ a ∧ a < d + w then (fun j => if j < k ∨ (j = k ∧ a < d + q) then I (a - d + s) j else I a j) else I a
theorem cpB_0 (I : Ty) (d s w : Nat) : I = cpB I d s w 0 := by
  funext a; unfold cpB
  by_cases h : d ≤ a ∧ a < d + w
  · rw [if_pos h]; funext j; rw [if_neg (Nat.not_lt_zero j)]
  · rw [if_neg h]
theorem cpq_0 (I : Ty) (d s w k : Nat) : cpB I d s w k = cpq I d s w k 0 := by
  funext a; unfold cpB cpq
  by_cases h : d ≤ a ∧ a < d + w
  · rw [if_pos h, if_pos h]; funext j
    by_cases hj : j < k
    · rw [if_pos hj, if_pos (Or.inl hj)]
    · rw [if_neg hj, if_neg (fun q => q.elim hj (fun q => by omega))]
  · rw [if_neg h, if_neg h]
theorem cpq_e (I : Ty) (d s w k : Nat) : cpq I d s w k w = cpB I d s w (k + 1) := by
  funext a; unfold cpB cpq
  by_cases h : d ≤ a ∧ a < d + w
  · rw [if_pos h, if_pos h]; funext j
    by_cases hj : j < k + 1
    · rw [if_pos hj, if_pos (by omega)]
    · rw [if_neg hj, if_neg (by omega)]
  · rw [if_neg h, if_neg h]
theorem cpq_s (I : Ty) {d s w k q a b : Nat} (ha : a = d + q) (hb : b = s + q) (hq : q < w) : wr (cpq I d s w k q) a k (I b k) = cpq I d s w k (q + 1) := by
  subst ha; subst hb
  funext a
  by_cases e : a = d + q
  · subst e
    show va_up (cpq I d s w k q) (d + q) (va_up (cpq I d s w k q (d + q)) k (I (s + q) k)) (d + q) = _
    rw [up_at]
    unfold cpq
    rw [if_pos ⟨by omega, by omega⟩, if_pos ⟨by omega, by omega⟩, show d + q - d + s = s + q by omega]
    funext j
    by_cases ej : j = k
    · subst ej; rw [up_at, if_pos (Or.inr ⟨rfl, by omega⟩)]
    · rw [up_off _ _ ej]
      by_cases hj : j < k
      · rw [if_pos (Or.inl hj), if_pos (Or.inl hj)]
      · rw [if_neg (by omega), if_neg (by omega)]
  · show va_up (cpq I d s w k q) (d + q) (va_up (cpq I d s w k q (d + q)) k (I (s + q) k)) a = _
    rw [up_off _ _ e]
    unfold cpq
    by_cases h : d ≤ a ∧ a < d + w
    · rw [if_pos h, if_pos h]; funext j
      by_cases hj : j < k ∨ (j = k ∧ a < d + q)
      · rw [if_pos hj, if_pos (by omega)]
      · rw [if_neg hj, if_neg (by omega)]
    · rw [if_neg h, if_neg h]
def imgI (I : Ty) : Ty := (cpB (cpB (cpB (cpB (cpB (wr (wr (wr (wr (wr (wr (wr I 65 45 1) 65 46 (I 65 11)) 65 47 (I 65 0)) 65 48 (I 65 1)) 65 49 (I 65 35)) 65 50 (I 65 39)) 65 51 (I 65 40)) 96 66 1 16) 97 67 6 6) 103 73 1 24) 104 89 3 5) 107 92 4 8)
def undI (I : Ty) : Ty := (cpB (cpB (cpB (cpB (cpB (wr (wr (wr (wr (wr (wr I 65 11 (I 65 46)) 65 0 (I 65 47)) 65 1 (I 65 48)) 65 35 (I 65 49)) 65 39 (I 65 50)) 65 40 (I 65 51)) 66 96 1 16) 67 97 6 6) 73 103 1 24) 89 104 3 5) 92 107 4 8)
set_option maxRecDepth 100000 in
set_option maxHeartbeats 2000000 in
theorem c_X9_image {g : Gl} {I : Ty} {L : TL} {na nt ni m : Nat} {nl : Nat → Nat}   : Ct g yX9_image cX9_image 2 (some .int) 0 0 0 [.ref (g.1 + 65)] I L (RT na nt ni) (NT nl) (NB + m) (Ps (some (.int (I 65 0))) (imgI I) L (RT na nt ni) (NT nl) (NB + m)) := by
  refine ct_of (by decide +kernel) (Nat.le_of_ble_eq_true rfl) (fun F hnm hr => ?_)
  clear hnm
  show V g F cX9_image RX9 2 0 0 [(0, .ref (g.1 + 65))] [] I L (RT na nt ni) (NT nl) (NB + m) 0 0
  refine v_aload_n dX9_image_0 rfl 0 rfl ?_
  refine v_iconst (v := 1) dX9_image_1 (by decide) ?_
  refine v_putz pa_X9_147 dX9_image_2 rfl (by decide) (ltn rfl) rfl rfl (by show 45 < 73; decide) rfl ?_
  refine v_aload_n dX9_image_5 rfl 0 rfl ?_
  refine v_aload_n dX9_image_6 rfl 0 rfl ?_
  refine v_get (v := .int (I 65 11)) fa_X9_44 dX9_image_7 rfl (by decide) (ltn rfl) rfl ?_
  refine v_puti pa_X9_151 dX9_image_10 rfl (by decide) (ltn rfl) (by show 46 < 73; decide) rfl ?_
  refine v_aload_n dX9_image_13 rfl 0 rfl ?_
  refine v_aload_n dX9_image_14 rfl 0 rfl ?_
  refine v_get (v := .int (I 65 0)) fa_X9_7 dX9_image_15 rfl (by decide) (ltn rfl) rfl ?_
  refine v_puti pa_X9_154 dX9_image_18 rfl (by decide) (ltn rfl) (by show 47 < 73; decide) rfl ?_
  refine v_aload_n dX9_image_21 rfl 0 rfl ?_
  refine v_aload_n dX9_image_22 rfl 0 rfl ?_
  refine v_get (v := .int (I 65 1)) fa_X9_13 dX9_image_23 rfl (by decide) (ltn rfl) rfl ?_
  refine v_puti pa_X9_157 dX9_image_26 rfl (by decide) (ltn rfl) (by show 48 < 73; decide) rfl ?_
  refine v_aload_n dX9_image_29 rfl 0 rfl ?_
  refine v_aload_n dX9_image_30 rfl 0 rfl ?_
  refine v_get (v := .int (I 65 35)) fa_X9_117 dX9_image_31 rfl (by decide) (ltn rfl) rfl ?_
  refine v_puti pa_X9_160 dX9_image_34 rfl (by decide) (ltn rfl) (by show 49 < 73; decide) rfl ?_
  refine v_aload_n dX9_image_37 rfl 0 rfl ?_
  refine v_aload_n dX9_image_38 rfl 0 rfl ?_
  refine v_get (v := .int (I 65 39)) fa_X9_129 dX9_image_39 rfl (by decide) (ltn rfl) rfl ?_
  refine v_puti pa_X9_163 dX9_image_42 rfl (by decide) (ltn rfl) (by show 50 < 73; decide) rfl ?_
  refine v_aload_n dX9_image_45 rfl 0 rfl ?_
  refine v_aload_n dX9_image_46 rfl 0 rfl ?_
  refine v_get (v := .int (I 65 40)) fa_X9_132 dX9_image_47 rfl (by decide) (ltn rfl) rfl ?_
  refine v_puti pa_X9_166 dX9_image_50 rfl (by decide) (ltn rfl) (by show 51 < 73; decide) rfl ?_
  refine v_iconst (v := 0) dX9_image_53 (by decide) ?_
  refine v_istore_n (lv2 := [(1, .int 0), (0, .ref (g.1 + 65))]) dX9_image_54 rfl (by decide) rfl ?_
  refine v_lv (lv2 := [(1, .int (nI 0)), (0, .ref (g.1 + 65))]) (by rfl) ?_
  refine v_I (I2 := (cpB (wr (wr (wr (wr (wr (wr (wr I 65 45 1) 65 46 (I 65 11)) 65 47 (I 65 0)) 65 48 (I 65 1)) 65 49 (I 65 35)) 65 50 (I 65 39)) 65 51 (I 65 40)) 96 66 1 0)) (by exact cpB_0 (wr (wr (wr (wr (wr (wr (wr I 65 45 1) 65 46 (I 65 11)) 65 47 (I 65 0)) 65 48 (I 65 1)) 65 49 (I 65 35)) 65 50 (I 65 39)) 65 51 (I 65 40)) 96 66 1) ?_
  refine dloop (P := fun i => V g F cX9_image RX9 2 0 55 [(1, .int (nI i)), (0, .ref (g.1 + 65))] [] (cpB (wr (wr (wr (wr (wr (wr (wr I 65 45 1) 65 46 (I 65 11)) 65 47 (I 65 0)) 65 48 (I 65 1)) 65 49 (I 65 35)) 65 50 (I 65 39)) 65 51 (I 65 40)) 96 66 1 i) L (RT na nt ni) (NT nl) (NB + m) 0 0) 16 ?_ ?_ 0 (Nat.zero_le _)
  · refine v_iload_n dX9_image_55 rfl 0 rfl ?_
    refine v_bipush (v := 16) dX9_image_56 (by decide) ?_
    refine v_icmp_geN (a := 16) (b := 16) (tgt := 79) dX9_image_58 (by decide) rfl rfl (by omega) (by omega) (fun h1 => ?_) (fun h => by exfalso; omega)
    refine v_iconst (v := 0) dX9_image_79 (by decide) ?_
    refine v_istore_n (lv2 := [(1, .int 0), (0, .ref (g.1 + 65))]) dX9_image_80 rfl (by decide) rfl ?_
    refine v_lv (lv2 := [(1, .int (nI 0)), (0, .ref (g.1 + 65))]) (by rfl) ?_
    refine v_I (I2 := (cpB (cpB (wr (wr (wr (wr (wr (wr (wr I 65 45 1) 65 46 (I 65 11)) 65 47 (I 65 0)) 65 48 (I 65 1)) 65 49 (I 65 35)) 65 50 (I 65 39)) 65 51 (I 65 40)) 96 66 1 16) 97 67 6 0)) (by exact cpB_0 (cpB (wr (wr (wr (wr (wr (wr (wr I 65 45 1) 65 46 (I 65 11)) 65 47 (I 65 0)) 65 48 (I 65 1)) 65 49 (I 65 35)) 65 50 (I 65 39)) 65 51 (I 65 40)) 96 66 1 16) 97 67 6) ?_
    refine dloop (P := fun i => V g F cX9_image RX9 2 0 81 [(1, .int (nI i)), (0, .ref (g.1 + 65))] [] (cpB (cpB (wr (wr (wr (wr (wr (wr (wr I 65 45 1) 65 46 (I 65 11)) 65 47 (I 65 0)) 65 48 (I 65 1)) 65 49 (I 65 35)) 65 50 (I 65 39)) 65 51 (I 65 40)) 96 66 1 16) 97 67 6 i) L (RT na nt ni) (NT nl) (NB + m) 0 0) 6 ?_ ?_ 0 (Nat.zero_le _)
    · refine v_iload_n dX9_image_81 rfl 0 rfl ?_
      refine v_bipush (v := 6) dX9_image_82 (by decide) ?_
      refine v_icmp_geN (a := 6) (b := 6) (tgt := 165) dX9_image_84 (by decide) rfl rfl (by omega) (by omega) (fun h2 => ?_) (fun h => by exfalso; omega)
      refine v_iconst (v := 0) dX9_image_165 (by decide) ?_
      refine v_istore_n (lv2 := [(1, .int 0), (0, .ref (g.1 + 65))]) dX9_image_166 rfl (by decide) rfl ?_
      refine v_lv (lv2 := [(1, .int (nI 0)), (0, .ref (g.1 + 65))]) (by rfl) ?_
      refine v_I (I2 := (cpB (cpB (cpB (wr (wr (wr (wr (wr (wr (wr I 65 45 1) 65 46 (I 65 11)) 65 47 (I 65 0)) 65 48 (I 65 1)) 65 49 (I 65 35)) 65 50 (I 65 39)) 65 51 (I 65 40)) 96 66 1 16) 97 67 6 6) 103 73 1 0)) (by exact cpB_0 (cpB (cpB (wr (wr (wr (wr (wr (wr (wr I 65 45 1) 65 46 (I 65 11)) 65 47 (I 65 0)) 65 48 (I 65 1)) 65 49 (I 65 35)) 65 50 (I 65 39)) 65 51 (I 65 40)) 96 66 1 16) 97 67 6 6) 103 73 1) ?_
      refine dloop (P := fun i => V g F cX9_image RX9 2 0 167 [(1, .int (nI i)), (0, .ref (g.1 + 65))] [] (cpB (cpB (cpB (wr (wr (wr (wr (wr (wr (wr I 65 45 1) 65 46 (I 65 11)) 65 47 (I 65 0)) 65 48 (I 65 1)) 65 49 (I 65 35)) 65 50 (I 65 39)) 65 51 (I 65 40)) 96 66 1 16) 97 67 6 6) 103 73 1 i) L (RT na nt ni) (NT nl) (NB + m) 0 0) 24 ?_ ?_ 0 (Nat.zero_le _)
      · refine v_iload_n dX9_image_167 rfl 0 rfl ?_
        refine v_bipush (v := 24) dX9_image_168 (by decide) ?_
        refine v_icmp_geN (a := 24) (b := 24) (tgt := 191) dX9_image_170 (by decide) rfl rfl (by omega) (by omega) (fun h3 => ?_) (fun h => by exfalso; omega)
        refine v_iconst (v := 0) dX9_image_191 (by decide) ?_
        refine v_istore_n (lv2 := [(1, .int 0), (0, .ref (g.1 + 65))]) dX9_image_192 rfl (by decide) rfl ?_
        refine v_lv (lv2 := [(1, .int (nI 0)), (0, .ref (g.1 + 65))]) (by rfl) ?_
        refine v_I (I2 := (cpB (cpB (cpB (cpB (wr (wr (wr (wr (wr (wr (wr I 65 45 1) 65 46 (I 65 11)) 65 47 (I 65 0)) 65 48 (I 65 1)) 65 49 (I 65 35)) 65 50 (I 65 39)) 65 51 (I 65 40)) 96 66 1 16) 97 67 6 6) 103 73 1 24) 104 89 3 0)) (by exact cpB_0 (cpB (cpB (cpB (wr (wr (wr (wr (wr (wr (wr I 65 45 1) 65 46 (I 65 11)) 65 47 (I 65 0)) 65 48 (I 65 1)) 65 49 (I 65 35)) 65 50 (I 65 39)) 65 51 (I 65 40)) 96 66 1 16) 97 67 6 6) 103 73 1 24) 104 89 3) ?_
        refine dloop (P := fun i => V g F cX9_image RX9 2 0 193 [(1, .int (nI i)), (0, .ref (g.1 + 65))] [] (cpB (cpB (cpB (cpB (wr (wr (wr (wr (wr (wr (wr I 65 45 1) 65 46 (I 65 11)) 65 47 (I 65 0)) 65 48 (I 65 1)) 65 49 (I 65 35)) 65 50 (I 65 39)) 65 51 (I 65 40)) 96 66 1 16) 97 67 6 6) 103 73 1 24) 104 89 3 i) L (RT na nt ni) (NT nl) (NB + m) 0 0) 5 ?_ ?_ 0 (Nat.zero_le _)
        · refine v_iload_n dX9_image_193 rfl 0 rfl ?_
          refine v_iconst (v := 5) dX9_image_194 (by decide) ?_
          refine v_icmp_geN (a := 5) (b := 5) (tgt := 240) dX9_image_195 (by decide) rfl rfl (by omega) (by omega) (fun h4 => ?_) (fun h => by exfalso; omega)
          refine v_iconst (v := 0) dX9_image_240 (by decide) ?_
          refine v_istore_n (lv2 := [(1, .int 0), (0, .ref (g.1 + 65))]) dX9_image_241 rfl (by decide) rfl ?_
          refine v_lv (lv2 := [(1, .int (nI 0)), (0, .ref (g.1 + 65))]) (by rfl) ?_
          refine v_I (I2 := (cpB (cpB (cpB (cpB (cpB (wr (wr (wr (wr (wr (wr (wr I 65 45 1) 65 46 (I 65 11)) 65 47 (I 65 0)) 65 48 (I 65 1)) 65 49 (I 65 35)) 65 50 (I 65 39)) 65 51 (I 65 40)) 96 66 1 16) 97 67 6 6) 103 73 1 24) 104 89 3 5) 107 92 4 0)) (by exact cpB_0 (cpB (cpB (cpB (cpB (wr (wr (wr (wr (wr (wr (wr I 65 45 1) 65 46 (I 65 11)) 65 47 (I 65 0)) 65 48 (I 65 1)) 65 49 (I 65 35)) 65 50 (I 65 39)) 65 51 (I 65 40)) 96 66 1 16) 97 67 6 6) 103 73 1 24) 104 89 3 5) 107 92 4) ?_
          refine dloop (P := fun i => V g F cX9_image RX9 2 0 242 [(1, .int (nI i)), (0, .ref (g.1 + 65))] [] (cpB (cpB (cpB (cpB (cpB (wr (wr (wr (wr (wr (wr (wr I 65 45 1) 65 46 (I 65 11)) 65 47 (I 65 0)) 65 48 (I 65 1)) 65 49 (I 65 35)) 65 50 (I 65 39)) 65 51 (I 65 40)) 96 66 1 16) 97 67 6 6) 103 73 1 24) 104 89 3 5) 107 92 4 i) L (RT na nt ni) (NT nl) (NB + m) 0 0) 8 ?_ ?_ 0 (Nat.zero_le _)
          · refine v_iload_n dX9_image_242 rfl 0 rfl ?_
            refine v_bipush (v := 8) dX9_image_243 (by decide) ?_
            refine v_icmp_geN (a := 8) (b := 8) (tgt := 302) dX9_image_245 (by decide) rfl rfl (by omega) (by omega) (fun h5 => ?_) (fun h => by exfalso; omega)
            refine v_aload_n dX9_image_302 rfl 1 rfl ?_
            refine v_get (v := .int ((cpB (cpB (cpB (cpB (cpB (wr (wr (wr (wr (wr (wr (wr I 65 45 1) 65 46 (I 65 11)) 65 47 (I 65 0)) 65 48 (I 65 1)) 65 49 (I 65 35)) 65 50 (I 65 39)) 65 51 (I 65 40)) 96 66 1 16) 97 67 6 6) 103 73 1 24) 104 89 3 5) 107 92 4 8) 65 0)) fa_X9_7 dX9_image_303 rfl (by decide) (ltn rfl) rfl ?_
            exact v_iret hr dX9_image_306 (psi rfl rfl)
          · intro i hi ih
            refine v_iload_n dX9_image_242 rfl 0 rfl ?_
            refine v_bipush (v := 8) dX9_image_243 (by decide) ?_
            refine v_icmp_geN (a := i) (b := 8) (tgt := 302) dX9_image_245 (by decide) rfl rfl (by omega) (by omega) (fun h => by exfalso; omega) (fun h6 => ?_)
            refine v_aload_n dX9_image_248 rfl 1 rfl ?_
            refine v_get (v := .ref (g.1 + 107)) fa_X9_202 dX9_image_249 rfl (by decide) (ltn rfl) rfl ?_
            refine v_iload_n dX9_image_252 rfl 0 rfl ?_
            refine v_aload_n dX9_image_253 rfl 1 rfl ?_
            refine v_get (v := .ref (g.1 + 92)) fa_X9_135 dX9_image_254 rfl (by decide) (ltn rfl) rfl ?_
            refine v_iload_n dX9_image_257 rfl 0 rfl ?_
            refine v_iaload (len := 8) (j := i) dX9_image_258 rfl (ltn rfl) rfl (by decide) rfl (by omega) ?_
            refine v_is (y := (cpB (cpB (cpB (cpB (wr (wr (wr (wr (wr (wr (wr I 65 45 1) 65 46 (I 65 11)) 65 47 (I 65 0)) 65 48 (I 65 1)) 65 49 (I 65 35)) 65 50 (I 65 39)) 65 51 (I 65 40)) 96 66 1 16) 97 67 6 6) 103 73 1 24) 104 89 3 5) 92 i) (by rfl) ?_
            refine v_iastore (len := 8) (j := i) dX9_image_259 rfl (ltn rfl) rfl (by decide) rfl (by omega) ?_
            refine v_aload_n dX9_image_260 rfl 1 rfl ?_
            refine v_get (v := .ref (g.1 + 108)) fa_X9_205 dX9_image_261 rfl (by decide) (ltn rfl) rfl ?_
            refine v_iload_n dX9_image_264 rfl 0 rfl ?_
            refine v_aload_n dX9_image_265 rfl 1 rfl ?_
            refine v_get (v := .ref (g.1 + 93)) fa_X9_138 dX9_image_266 rfl (by decide) (ltn rfl) rfl ?_
            refine v_iload_n dX9_image_269 rfl 0 rfl ?_
            refine v_iaload (len := 8) (j := i) dX9_image_270 rfl (ltn rfl) rfl (by decide) rfl (by omega) ?_
            refine v_is (y := (cpB (cpB (cpB (cpB (wr (wr (wr (wr (wr (wr (wr I 65 45 1) 65 46 (I 65 11)) 65 47 (I 65 0)) 65 48 (I 65 1)) 65 49 (I 65 35)) 65 50 (I 65 39)) 65 51 (I 65 40)) 96 66 1 16) 97 67 6 6) 103 73 1 24) 104 89 3 5) 93 i) (by first | (rfl) | (simp only [va_up]; rfl) | (simp [va_up]; rfl)) ?_
            refine v_iastore (len := 8) (j := i) dX9_image_271 rfl (ltn rfl) rfl (by decide) rfl (by omega) ?_
            refine v_aload_n dX9_image_272 rfl 1 rfl ?_
            refine v_get (v := .ref (g.1 + 109)) fa_X9_208 dX9_image_273 rfl (by decide) (ltn rfl) rfl ?_
            refine v_iload_n dX9_image_276 rfl 0 rfl ?_
            refine v_aload_n dX9_image_277 rfl 1 rfl ?_
            refine v_get (v := .ref (g.1 + 94)) fa_X9_141 dX9_image_278 rfl (by decide) (ltn rfl) rfl ?_
            refine v_iload_n dX9_image_281 rfl 0 rfl ?_
            refine v_iaload (len := 8) (j := i) dX9_image_282 rfl (ltn rfl) rfl (by decide) rfl (by omega) ?_
            refine v_is (y := (cpB (cpB (cpB (cpB (wr (wr (wr (wr (wr (wr (wr I 65 45 1) 65 46 (I 65 11)) 65 47 (I 65 0)) 65 48 (I 65 1)) 65 49 (I 65 35)) 65 50 (I 65 39)) 65 51 (I 65 40)) 96 66 1 16) 97 67 6 6) 103 73 1 24) 104 89 3 5) 94 i) (by first | (rfl) | (simp only [va_up]; rfl) | (simp [va_up]; rfl)) ?_
            refine v_iastore (len := 8) (j := i) dX9_image_283 rfl (ltn rfl) rfl (by decide) rfl (by omega) ?_
            refine v_aload_n dX9_image_284 rfl 1 rfl ?_
            refine v_get (v := .ref (g.1 + 110)) fa_X9_211 dX9_image_285 rfl (by decide) (ltn rfl) rfl ?_
            refine v_iload_n dX9_image_288 rfl 0 rfl ?_
            refine v_aload_n dX9_image_289 rfl 1 rfl ?_
            refine v_get (v := .ref (g.1 + 95)) fa_X9_144 dX9_image_290 rfl (by decide) (ltn rfl) rfl ?_
            refine v_iload_n dX9_image_293 rfl 0 rfl ?_
            refine v_iaload (len := 8) (j := i) dX9_image_294 rfl (ltn rfl) rfl (by decide) rfl (by omega) ?_
            refine v_is (y := (cpB (cpB (cpB (cpB (wr (wr (wr (wr (wr (wr (wr I 65 45 1) 65 46 (I 65 11)) 65 47 (I 65 0)) 65 48 (I 65 1)) 65 49 (I 65 35)) 65 50 (I 65 39)) 65 51 (I 65 40)) 96 66 1 16) 97 67 6 6) 103 73 1 24) 104 89 3 5) 95 i) (by first | (rfl) | (simp only [va_up]; rfl) | (simp [va_up]; rfl)) ?_
            refine v_iastore (len := 8) (j := i) dX9_image_295 rfl (ltn rfl) rfl (by decide) rfl (by omega) ?_
            refine v_inc (v := nI (i + 1)) (lv2 := [(1, .int (nI (i + 1))), (0, .ref (g.1 + 65))]) dX9_image_296 0 rfl (nx_inc rfl) (by decide) rfl ?_
            refine v_goto (tgt := 242) dX9_image_299 (by decide) ?_
            refine v_I (I2 := (cpB (cpB (cpB (cpB (cpB (wr (wr (wr (wr (wr (wr (wr I 65 45 1) 65 46 (I 65 11)) 65 47 (I 65 0)) 65 48 (I 65 1)) 65 49 (I 65 35)) 65 50 (I 65 39)) 65 51 (I 65 40)) 96 66 1 16) 97 67 6 6) 103 73 1 24) 104 89 3 5) 107 92 4 (i + 1))) (by exact (((congrArg (fun z => wr z 110 i ((cpB (cpB (cpB (cpB (wr (wr (wr (wr (wr (wr (wr I 65 45 1) 65 46 (I 65 11)) 65 47 (I 65 0)) 65 48 (I 65 1)) 65 49 (I 65 35)) 65 50 (I 65 39)) 65 51 (I 65 40)) 96 66 1 16) 97 67 6 6) 103 73 1 24) 104 89 3 5) 95 i)) ((congrArg (fun z => wr z 109 i ((cpB (cpB (cpB (cpB (wr (wr (wr (wr (wr (wr (wr I 65 45 1) 65 46 (I 65 11)) 65 47 (I 65 0)) 65 48 (I 65 1)) 65 49 (I 65 35)) 65 50 (I 65 39)) 65 51 (I 65 40)) 96 66 1 16) 97 67 6 6) 103 73 1 24) 104 89 3 5) 94 i)) ((congrArg (fun z => wr z 108 i ((cpB (cpB (cpB (cpB (wr (wr (wr (wr (wr (wr (wr I 65 45 1) 65 46 (I 65 11)) 65 47 (I 65 0)) 65 48 (I 65 1)) 65 49 (I 65 35)) 65 50 (I 65 39)) 65 51 (I 65 40)) 96 66 1 16) 97 67 6 6) 103 73 1 24) 104 89 3 5) 93 i)) ((congrArg (fun z => wr z 107 i ((cpB (cpB (cpB (cpB (wr (wr (wr (wr (wr (wr (wr I 65 45 1) 65 46 (I 65 11)) 65 47 (I 65 0)) 65 48 (I 65 1)) 65 49 (I 65 35)) 65 50 (I 65 39)) 65 51 (I 65 40)) 96 66 1 16) 97 67 6 6) 103 73 1 24) 104 89 3 5) 92 i)) (cpq_0 (cpB (cpB (cpB (cpB (wr (wr (wr (wr (wr (wr (wr I 65 45 1) 65 46 (I 65 11)) 65 47 (I 65 0)) 65 48 (I 65 1)) 65 49 (I 65 35)) 65 50 (I 65 39)) 65 51 (I 65 40)) 96 66 1 16) 97 67 6 6) 103 73 1 24) 104 89 3 5) 107 92 4 i)).trans (cpq_s (cpB (cpB (cpB (cpB (wr (wr (wr (wr (wr (wr (wr I 65 45 1) 65 46 (I 65 11)) 65 47 (I 65 0)) 65 48 (I 65 1)) 65 49 (I 65 35)) 65 50 (I 65 39)) 65 51 (I 65 40)) 96 66 1 16) 97 67 6 6) 103 73 1 24) 104 89 3 5) (d := 107) (s := 92) (w := 4) (q := 0) rfl rfl (by decide)))).trans (cpq_s (cpB (cpB (cpB (cpB (wr (wr (wr (wr (wr (wr (wr I 65 45 1) 65 46 (I 65 11)) 65 47 (I 65 0)) 65 48 (I 65 1)) 65 49 (I 65 35)) 65 50 (I 65 39)) 65 51 (I 65 40)) 96 66 1 16) 97 67 6 6) 103 73 1 24) 104 89 3 5) (d := 107) (s := 92) (w := 4) (q := 1) rfl rfl (by decide)))).trans (cpq_s (cpB (cpB (cpB (cpB (wr (wr (wr (wr (wr (wr (wr I 65 45 1) 65 46 (I 65 11)) 65 47 (I 65 0)) 65 48 (I 65 1)) 65 49 (I 65 35)) 65 50 (I 65 39)) 65 51 (I 65 40)) 96 66 1 16) 97 67 6 6) 103 73 1 24) 104 89 3 5) (d := 107) (s := 92) (w := 4) (q := 2) rfl rfl (by decide)))).trans (cpq_s (cpB (cpB (cpB (cpB (wr (wr (wr (wr (wr (wr (wr I 65 45 1) 65 46 (I 65 11)) 65 47 (I 65 0)) 65 48 (I 65 1)) 65 49 (I 65 35)) 65 50 (I 65 39)) 65 51 (I 65 40)) 96 66 1 16) 97 67 6 6) 103 73 1 24) 104 89 3 5) (d := 107) (s := 92) (w := 4) (q := 3) rfl rfl (by decide))).trans (cpq_e (cpB (cpB (cpB (cpB (wr (wr (wr (wr (wr (wr (wr I 65 45 1) 65 46 (I 65 11)) 65 47 (I 65 0)) 65 48 (I 65 1)) 65 49 (I 65 35)) 65 50 (I 65 39)) 65 51 (I 65 40)) 96 66 1 16) 97 67 6 6) 103 73 1 24) 104 89 3 5) 107 92 4 i))) ?_
            exact ih
        · intro i hi ih
          refine v_iload_n dX9_image_193 rfl 0 rfl ?_
          refine v_iconst (v := 5) dX9_image_194 (by decide) ?_
          refine v_icmp_geN (a := i) (b := 5) (tgt := 240) dX9_image_195 (by decide) rfl rfl (by omega) (by omega) (fun h => by exfalso; omega) (fun h7 => ?_)
          refine v_aload_n dX9_image_198 rfl 1 rfl ?_
          refine v_get (v := .ref (g.1 + 104)) fa_X9_193 dX9_image_199 rfl (by decide) (ltn rfl) rfl ?_
          refine v_iload_n dX9_image_202 rfl 0 rfl ?_
          refine v_aload_n dX9_image_203 rfl 1 rfl ?_
          refine v_get (v := .ref (g.1 + 89)) fa_X9_120 dX9_image_204 rfl (by decide) (ltn rfl) rfl ?_
          refine v_iload_n dX9_image_207 rfl 0 rfl ?_
          refine v_iaload (len := 5) (j := i) dX9_image_208 rfl (ltn rfl) rfl (by decide) rfl (by omega) ?_
          refine v_is (y := (cpB (cpB (cpB (wr (wr (wr (wr (wr (wr (wr I 65 45 1) 65 46 (I 65 11)) 65 47 (I 65 0)) 65 48 (I 65 1)) 65 49 (I 65 35)) 65 50 (I 65 39)) 65 51 (I 65 40)) 96 66 1 16) 97 67 6 6) 103 73 1 24) 89 i) (by rfl) ?_
          refine v_iastore (len := 5) (j := i) dX9_image_209 rfl (ltn rfl) rfl (by decide) rfl (by omega) ?_
          refine v_aload_n dX9_image_210 rfl 1 rfl ?_
          refine v_get (v := .ref (g.1 + 105)) fa_X9_196 dX9_image_211 rfl (by decide) (ltn rfl) rfl ?_
          refine v_iload_n dX9_image_214 rfl 0 rfl ?_
          refine v_aload_n dX9_image_215 rfl 1 rfl ?_
          refine v_get (v := .ref (g.1 + 90)) fa_X9_123 dX9_image_216 rfl (by decide) (ltn rfl) rfl ?_
          refine v_iload_n dX9_image_219 rfl 0 rfl ?_
          refine v_iaload (len := 5) (j := i) dX9_image_220 rfl (ltn rfl) rfl (by decide) rfl (by omega) ?_
          refine v_is (y := (cpB (cpB (cpB (wr (wr (wr (wr (wr (wr (wr I 65 45 1) 65 46 (I 65 11)) 65 47 (I 65 0)) 65 48 (I 65 1)) 65 49 (I 65 35)) 65 50 (I 65 39)) 65 51 (I 65 40)) 96 66 1 16) 97 67 6 6) 103 73 1 24) 90 i) (by first | (rfl) | (simp only [va_up]; rfl) | (simp [va_up]; rfl)) ?_
          refine v_iastore (len := 5) (j := i) dX9_image_221 rfl (ltn rfl) rfl (by decide) rfl (by omega) ?_
          refine v_aload_n dX9_image_222 rfl 1 rfl ?_
          refine v_get (v := .ref (g.1 + 106)) fa_X9_199 dX9_image_223 rfl (by decide) (ltn rfl) rfl ?_
          refine v_iload_n dX9_image_226 rfl 0 rfl ?_
          refine v_aload_n dX9_image_227 rfl 1 rfl ?_
          refine v_get (v := .ref (g.1 + 91)) fa_X9_126 dX9_image_228 rfl (by decide) (ltn rfl) rfl ?_
          refine v_iload_n dX9_image_231 rfl 0 rfl ?_
          refine v_iaload (len := 5) (j := i) dX9_image_232 rfl (ltn rfl) rfl (by decide) rfl (by omega) ?_
          refine v_is (y := (cpB (cpB (cpB (wr (wr (wr (wr (wr (wr (wr I 65 45 1) 65 46 (I 65 11)) 65 47 (I 65 0)) 65 48 (I 65 1)) 65 49 (I 65 35)) 65 50 (I 65 39)) 65 51 (I 65 40)) 96 66 1 16) 97 67 6 6) 103 73 1 24) 91 i) (by first | (rfl) | (simp only [va_up]; rfl) | (simp [va_up]; rfl)) ?_
          refine v_iastore (len := 5) (j := i) dX9_image_233 rfl (ltn rfl) rfl (by decide) rfl (by omega) ?_
          refine v_inc (v := nI (i + 1)) (lv2 := [(1, .int (nI (i + 1))), (0, .ref (g.1 + 65))]) dX9_image_234 0 rfl (nx_inc rfl) (by decide) rfl ?_
          refine v_goto (tgt := 193) dX9_image_237 (by decide) ?_
          refine v_I (I2 := (cpB (cpB (cpB (cpB (wr (wr (wr (wr (wr (wr (wr I 65 45 1) 65 46 (I 65 11)) 65 47 (I 65 0)) 65 48 (I 65 1)) 65 49 (I 65 35)) 65 50 (I 65 39)) 65 51 (I 65 40)) 96 66 1 16) 97 67 6 6) 103 73 1 24) 104 89 3 (i + 1))) (by exact (((congrArg (fun z => wr z 106 i ((cpB (cpB (cpB (wr (wr (wr (wr (wr (wr (wr I 65 45 1) 65 46 (I 65 11)) 65 47 (I 65 0)) 65 48 (I 65 1)) 65 49 (I 65 35)) 65 50 (I 65 39)) 65 51 (I 65 40)) 96 66 1 16) 97 67 6 6) 103 73 1 24) 91 i)) ((congrArg (fun z => wr z 105 i ((cpB (cpB (cpB (wr (wr (wr (wr (wr (wr (wr I 65 45 1) 65 46 (I 65 11)) 65 47 (I 65 0)) 65 48 (I 65 1)) 65 49 (I 65 35)) 65 50 (I 65 39)) 65 51 (I 65 40)) 96 66 1 16) 97 67 6 6) 103 73 1 24) 90 i)) ((congrArg (fun z => wr z 104 i ((cpB (cpB (cpB (wr (wr (wr (wr (wr (wr (wr I 65 45 1) 65 46 (I 65 11)) 65 47 (I 65 0)) 65 48 (I 65 1)) 65 49 (I 65 35)) 65 50 (I 65 39)) 65 51 (I 65 40)) 96 66 1 16) 97 67 6 6) 103 73 1 24) 89 i)) (cpq_0 (cpB (cpB (cpB (wr (wr (wr (wr (wr (wr (wr I 65 45 1) 65 46 (I 65 11)) 65 47 (I 65 0)) 65 48 (I 65 1)) 65 49 (I 65 35)) 65 50 (I 65 39)) 65 51 (I 65 40)) 96 66 1 16) 97 67 6 6) 103 73 1 24) 104 89 3 i)).trans (cpq_s (cpB (cpB (cpB (wr (wr (wr (wr (wr (wr (wr I 65 45 1) 65 46 (I 65 11)) 65 47 (I 65 0)) 65 48 (I 65 1)) 65 49 (I 65 35)) 65 50 (I 65 39)) 65 51 (I 65 40)) 96 66 1 16) 97 67 6 6) 103 73 1 24) (d := 104) (s := 89) (w := 3) (q := 0) rfl rfl (by decide)))).trans (cpq_s (cpB (cpB (cpB (wr (wr (wr (wr (wr (wr (wr I 65 45 1) 65 46 (I 65 11)) 65 47 (I 65 0)) 65 48 (I 65 1)) 65 49 (I 65 35)) 65 50 (I 65 39)) 65 51 (I 65 40)) 96 66 1 16) 97 67 6 6) 103 73 1 24) (d := 104) (s := 89) (w := 3) (q := 1) rfl rfl (by decide)))).trans (cpq_s (cpB (cpB (cpB (wr (wr (wr (wr (wr (wr (wr I 65 45 1) 65 46 (I 65 11)) 65 47 (I 65 0)) 65 48 (I 65 1)) 65 49 (I 65 35)) 65 50 (I 65 39)) 65 51 (I 65 40)) 96 66 1 16) 97 67 6 6) 103 73 1 24) (d := 104) (s := 89) (w := 3) (q := 2) rfl rfl (by decide))).trans (cpq_e (cpB (cpB (cpB (wr (wr (wr (wr (wr (wr (wr I 65 45 1) 65 46 (I 65 11)) 65 47 (I 65 0)) 65 48 (I 65 1)) 65 49 (I 65 35)) 65 50 (I 65 39)) 65 51 (I 65 40)) 96 66 1 16) 97 67 6 6) 103 73 1 24) 104 89 3 i))) ?_
          exact ih
      · intro i hi ih
        refine v_iload_n dX9_image_167 rfl 0 rfl ?_
        refine v_bipush (v := 24) dX9_image_168 (by decide) ?_
        refine v_icmp_geN (a := i) (b := 24) (tgt := 191) dX9_image_170 (by decide) rfl rfl (by omega) (by omega) (fun h => by exfalso; omega) (fun h8 => ?_)
        refine v_aload_n dX9_image_173 rfl 1 rfl ?_
        refine v_get (v := .ref (g.1 + 103)) fa_X9_190 dX9_image_174 rfl (by decide) (ltn rfl) rfl ?_
        refine v_iload_n dX9_image_177 rfl 0 rfl ?_
        refine v_aload_n dX9_image_178 rfl 1 rfl ?_
        refine v_get (v := .ref (g.1 + 73)) fa_X9_38 dX9_image_179 rfl (by decide) (ltn rfl) rfl ?_
        refine v_iload_n dX9_image_182 rfl 0 rfl ?_
        refine v_iaload (len := 24) (j := i) dX9_image_183 rfl (ltn rfl) rfl (by decide) rfl (by omega) ?_
        refine v_is (y := (cpB (cpB (wr (wr (wr (wr (wr (wr (wr I 65 45 1) 65 46 (I 65 11)) 65 47 (I 65 0)) 65 48 (I 65 1)) 65 49 (I 65 35)) 65 50 (I 65 39)) 65 51 (I 65 40)) 96 66 1 16) 97 67 6 6) 73 i) (by rfl) ?_
        refine v_iastore (len := 24) (j := i) dX9_image_184 rfl (ltn rfl) rfl (by decide) rfl (by omega) ?_
        refine v_inc (v := nI (i + 1)) (lv2 := [(1, .int (nI (i + 1))), (0, .ref (g.1 + 65))]) dX9_image_185 0 rfl (nx_inc rfl) (by decide) rfl ?_
        refine v_goto (tgt := 167) dX9_image_188 (by decide) ?_
        refine v_I (I2 := (cpB (cpB (cpB (wr (wr (wr (wr (wr (wr (wr I 65 45 1) 65 46 (I 65 11)) 65 47 (I 65 0)) 65 48 (I 65 1)) 65 49 (I 65 35)) 65 50 (I 65 39)) 65 51 (I 65 40)) 96 66 1 16) 97 67 6 6) 103 73 1 (i + 1))) (by exact (((congrArg (fun z => wr z 103 i ((cpB (cpB (wr (wr (wr (wr (wr (wr (wr I 65 45 1) 65 46 (I 65 11)) 65 47 (I 65 0)) 65 48 (I 65 1)) 65 49 (I 65 35)) 65 50 (I 65 39)) 65 51 (I 65 40)) 96 66 1 16) 97 67 6 6) 73 i)) (cpq_0 (cpB (cpB (wr (wr (wr (wr (wr (wr (wr I 65 45 1) 65 46 (I 65 11)) 65 47 (I 65 0)) 65 48 (I 65 1)) 65 49 (I 65 35)) 65 50 (I 65 39)) 65 51 (I 65 40)) 96 66 1 16) 97 67 6 6) 103 73 1 i)).trans (cpq_s (cpB (cpB (wr (wr (wr (wr (wr (wr (wr I 65 45 1) 65 46 (I 65 11)) 65 47 (I 65 0)) 65 48 (I 65 1)) 65 49 (I 65 35)) 65 50 (I 65 39)) 65 51 (I 65 40)) 96 66 1 16) 97 67 6 6) (d := 103) (s := 73) (w := 1) (q := 0) rfl rfl (by decide))).trans (cpq_e (cpB (cpB (wr (wr (wr (wr (wr (wr (wr I 65 45 1) 65 46 (I 65 11)) 65 47 (I 65 0)) 65 48 (I 65 1)) 65 49 (I 65 35)) 65 50 (I 65 39)) 65 51 (I 65 40)) 96 66 1 16) 97 67 6 6) 103 73 1 i))) ?_
        exact ih
    · intro i hi ih
      refine v_iload_n dX9_image_81 rfl 0 rfl ?_
      refine v_bipush (v := 6) dX9_image_82 (by decide) ?_
      refine v_icmp_geN (a := i) (b := 6) (tgt := 165) dX9_image_84 (by decide) rfl rfl (by omega) (by omega) (fun h => by exfalso; omega) (fun h9 => ?_)
      refine v_aload_n dX9_image_87 rfl 1 rfl ?_
      refine v_get (v := .ref (g.1 + 97)) fa_X9_172 dX9_image_88 rfl (by decide) (ltn rfl) rfl ?_
      refine v_iload_n dX9_image_91 rfl 0 rfl ?_
      refine v_aload_n dX9_image_92 rfl 1 rfl ?_
      refine v_get (v := .ref (g.1 + 67)) fa_X9_20 dX9_image_93 rfl (by decide) (ltn rfl) rfl ?_
      refine v_iload_n dX9_image_96 rfl 0 rfl ?_
      refine v_iaload (len := 6) (j := i) dX9_image_97 rfl (ltn rfl) rfl (by decide) rfl (by omega) ?_
      refine v_is (y := (cpB (wr (wr (wr (wr (wr (wr (wr I 65 45 1) 65 46 (I 65 11)) 65 47 (I 65 0)) 65 48 (I 65 1)) 65 49 (I 65 35)) 65 50 (I 65 39)) 65 51 (I 65 40)) 96 66 1 16) 67 i) (by rfl) ?_
      refine v_iastore (len := 6) (j := i) dX9_image_98 rfl (ltn rfl) rfl (by decide) rfl (by omega) ?_
      refine v_aload_n dX9_image_99 rfl 1 rfl ?_
      refine v_get (v := .ref (g.1 + 98)) fa_X9_175 dX9_image_100 rfl (by decide) (ltn rfl) rfl ?_
      refine v_iload_n dX9_image_103 rfl 0 rfl ?_
      refine v_aload_n dX9_image_104 rfl 1 rfl ?_
      refine v_get (v := .ref (g.1 + 68)) fa_X9_23 dX9_image_105 rfl (by decide) (ltn rfl) rfl ?_
      refine v_iload_n dX9_image_108 rfl 0 rfl ?_
      refine v_iaload (len := 6) (j := i) dX9_image_109 rfl (ltn rfl) rfl (by decide) rfl (by omega) ?_
      refine v_is (y := (cpB (wr (wr (wr (wr (wr (wr (wr I 65 45 1) 65 46 (I 65 11)) 65 47 (I 65 0)) 65 48 (I 65 1)) 65 49 (I 65 35)) 65 50 (I 65 39)) 65 51 (I 65 40)) 96 66 1 16) 68 i) (by first | (rfl) | (simp only [va_up]; rfl) | (simp [va_up]; rfl)) ?_
      refine v_iastore (len := 6) (j := i) dX9_image_110 rfl (ltn rfl) rfl (by decide) rfl (by omega) ?_
      refine v_aload_n dX9_image_111 rfl 1 rfl ?_
      refine v_get (v := .ref (g.1 + 99)) fa_X9_178 dX9_image_112 rfl (by decide) (ltn rfl) rfl ?_
      refine v_iload_n dX9_image_115 rfl 0 rfl ?_
      refine v_aload_n dX9_image_116 rfl 1 rfl ?_
      refine v_get (v := .ref (g.1 + 69)) fa_X9_26 dX9_image_117 rfl (by decide) (ltn rfl) rfl ?_
      refine v_iload_n dX9_image_120 rfl 0 rfl ?_
      refine v_iaload (len := 6) (j := i) dX9_image_121 rfl (ltn rfl) rfl (by decide) rfl (by omega) ?_
      refine v_is (y := (cpB (wr (wr (wr (wr (wr (wr (wr I 65 45 1) 65 46 (I 65 11)) 65 47 (I 65 0)) 65 48 (I 65 1)) 65 49 (I 65 35)) 65 50 (I 65 39)) 65 51 (I 65 40)) 96 66 1 16) 69 i) (by first | (rfl) | (simp only [va_up]; rfl) | (simp [va_up]; rfl)) ?_
      refine v_iastore (len := 6) (j := i) dX9_image_122 rfl (ltn rfl) rfl (by decide) rfl (by omega) ?_
      refine v_aload_n dX9_image_123 rfl 1 rfl ?_
      refine v_get (v := .ref (g.1 + 100)) fa_X9_181 dX9_image_124 rfl (by decide) (ltn rfl) rfl ?_
      refine v_iload_n dX9_image_127 rfl 0 rfl ?_
      refine v_aload_n dX9_image_128 rfl 1 rfl ?_
      refine v_get (v := .ref (g.1 + 70)) fa_X9_29 dX9_image_129 rfl (by decide) (ltn rfl) rfl ?_
      refine v_iload_n dX9_image_132 rfl 0 rfl ?_
      refine v_iaload (len := 6) (j := i) dX9_image_133 rfl (ltn rfl) rfl (by decide) rfl (by omega) ?_
      refine v_is (y := (cpB (wr (wr (wr (wr (wr (wr (wr I 65 45 1) 65 46 (I 65 11)) 65 47 (I 65 0)) 65 48 (I 65 1)) 65 49 (I 65 35)) 65 50 (I 65 39)) 65 51 (I 65 40)) 96 66 1 16) 70 i) (by first | (rfl) | (simp only [va_up]; rfl) | (simp [va_up]; rfl)) ?_
      refine v_iastore (len := 6) (j := i) dX9_image_134 rfl (ltn rfl) rfl (by decide) rfl (by omega) ?_
      refine v_aload_n dX9_image_135 rfl 1 rfl ?_
      refine v_get (v := .ref (g.1 + 101)) fa_X9_184 dX9_image_136 rfl (by decide) (ltn rfl) rfl ?_
      refine v_iload_n dX9_image_139 rfl 0 rfl ?_
      refine v_aload_n dX9_image_140 rfl 1 rfl ?_
      refine v_get (v := .ref (g.1 + 71)) fa_X9_32 dX9_image_141 rfl (by decide) (ltn rfl) rfl ?_
      refine v_iload_n dX9_image_144 rfl 0 rfl ?_
      refine v_iaload (len := 6) (j := i) dX9_image_145 rfl (ltn rfl) rfl (by decide) rfl (by omega) ?_
      refine v_is (y := (cpB (wr (wr (wr (wr (wr (wr (wr I 65 45 1) 65 46 (I 65 11)) 65 47 (I 65 0)) 65 48 (I 65 1)) 65 49 (I 65 35)) 65 50 (I 65 39)) 65 51 (I 65 40)) 96 66 1 16) 71 i) (by first | (rfl) | (simp only [va_up]; rfl) | (simp [va_up]; rfl)) ?_
      refine v_iastore (len := 6) (j := i) dX9_image_146 rfl (ltn rfl) rfl (by decide) rfl (by omega) ?_
      refine v_aload_n dX9_image_147 rfl 1 rfl ?_
      refine v_get (v := .ref (g.1 + 102)) fa_X9_187 dX9_image_148 rfl (by decide) (ltn rfl) rfl ?_
      refine v_iload_n dX9_image_151 rfl 0 rfl ?_
      refine v_aload_n dX9_image_152 rfl 1 rfl ?_
      refine v_get (v := .ref (g.1 + 72)) fa_X9_35 dX9_image_153 rfl (by decide) (ltn rfl) rfl ?_
      refine v_iload_n dX9_image_156 rfl 0 rfl ?_
      refine v_iaload (len := 6) (j := i) dX9_image_157 rfl (ltn rfl) rfl (by decide) rfl (by omega) ?_
      refine v_is (y := (cpB (wr (wr (wr (wr (wr (wr (wr I 65 45 1) 65 46 (I 65 11)) 65 47 (I 65 0)) 65 48 (I 65 1)) 65 49 (I 65 35)) 65 50 (I 65 39)) 65 51 (I 65 40)) 96 66 1 16) 72 i) (by first | (rfl) | (simp only [va_up]; rfl) | (simp [va_up]; rfl)) ?_
      refine v_iastore (len := 6) (j := i) dX9_image_158 rfl (ltn rfl) rfl (by decide) rfl (by omega) ?_
      refine v_inc (v := nI (i + 1)) (lv2 := [(1, .int (nI (i + 1))), (0, .ref (g.1 + 65))]) dX9_image_159 0 rfl (nx_inc rfl) (by decide) rfl ?_
      refine v_goto (tgt := 81) dX9_image_162 (by decide) ?_
      refine v_I (I2 := (cpB (cpB (wr (wr (wr (wr (wr (wr (wr I 65 45 1) 65 46 (I 65 11)) 65 47 (I 65 0)) 65 48 (I 65 1)) 65 49 (I 65 35)) 65 50 (I 65 39)) 65 51 (I 65 40)) 96 66 1 16) 97 67 6 (i + 1))) (by exact (((congrArg (fun z => wr z 102 i ((cpB (wr (wr (wr (wr (wr (wr (wr I 65 45 1) 65 46 (I 65 11)) 65 47 (I 65 0)) 65 48 (I 65 1)) 65 49 (I 65 35)) 65 50 (I 65 39)) 65 51 (I 65 40)) 96 66 1 16) 72 i)) ((congrArg (fun z => wr z 101 i ((cpB (wr (wr (wr (wr (wr (wr (wr I 65 45 1) 65 46 (I 65 11)) 65 47 (I 65 0)) 65 48 (I 65 1)) 65 49 (I 65 35)) 65 50 (I 65 39)) 65 51 (I 65 40)) 96 66 1 16) 71 i)) ((congrArg (fun z => wr z 100 i ((cpB (wr (wr (wr (wr (wr (wr (wr I 65 45 1) 65 46 (I 65 11)) 65 47 (I 65 0)) 65 48 (I 65 1)) 65 49 (I 65 35)) 65 50 (I 65 39)) 65 51 (I 65 40)) 96 66 1 16) 70 i)) ((congrArg (fun z => wr z 99 i ((cpB (wr (wr (wr (wr (wr (wr (wr I 65 45 1) 65 46 (I 65 11)) 65 47 (I 65 0)) 65 48 (I 65 1)) 65 49 (I 65 35)) 65 50 (I 65 39)) 65 51 (I 65 40)) 96 66 1 16) 69 i)) ((congrArg (fun z => wr z 98 i ((cpB (wr (wr (wr (wr (wr (wr (wr I 65 45 1) 65 46 (I 65 11)) 65 47 (I 65 0)) 65 48 (I 65 1)) 65 49 (I 65 35)) 65 50 (I 65 39)) 65 51 (I 65 40)) 96 66 1 16) 68 i)) ((congrArg (fun z => wr z 97 i ((cpB (wr (wr (wr (wr (wr (wr (wr I 65 45 1) 65 46 (I 65 11)) 65 47 (I 65 0)) 65 48 (I 65 1)) 65 49 (I 65 35)) 65 50 (I 65 39)) 65 51 (I 65 40)) 96 66 1 16) 67 i)) (cpq_0 (cpB (wr (wr (wr (wr (wr (wr (wr I 65 45 1) 65 46 (I 65 11)) 65 47 (I 65 0)) 65 48 (I 65 1)) 65 49 (I 65 35)) 65 50 (I 65 39)) 65 51 (I 65 40)) 96 66 1 16) 97 67 6 i)).trans (cpq_s (cpB (wr (wr (wr (wr (wr (wr (wr I 65 45 1) 65 46 (I 65 11)) 65 47 (I 65 0)) 65 48 (I 65 1)) 65 49 (I 65 35)) 65 50 (I 65 39)) 65 51 (I 65 40)) 96 66 1 16) (d := 97) (s := 67) (w := 6) (q := 0) rfl rfl (by decide)))).trans (cpq_s (cpB (wr (wr (wr (wr (wr (wr (wr I 65 45 1) 65 46 (I 65 11)) 65 47 (I 65 0)) 65 48 (I 65 1)) 65 49 (I 65 35)) 65 50 (I 65 39)) 65 51 (I 65 40)) 96 66 1 16) (d := 97) (s := 67) (w := 6) (q := 1) rfl rfl (by decide)))).trans (cpq_s (cpB (wr (wr (wr (wr (wr (wr (wr I 65 45 1) 65 46 (I 65 11)) 65 47 (I 65 0)) 65 48 (I 65 1)) 65 49 (I 65 35)) 65 50 (I 65 39)) 65 51 (I 65 40)) 96 66 1 16) (d := 97) (s := 67) (w := 6) (q := 2) rfl rfl (by decide)))).trans (cpq_s (cpB (wr (wr (wr (wr (wr (wr (wr I 65 45 1) 65 46 (I 65 11)) 65 47 (I 65 0)) 65 48 (I 65 1)) 65 49 (I 65 35)) 65 50 (I 65 39)) 65 51 (I 65 40)) 96 66 1 16) (d := 97) (s := 67) (w := 6) (q := 3) rfl rfl (by decide)))).trans (cpq_s (cpB (wr (wr (wr (wr (wr (wr (wr I 65 45 1) 65 46 (I 65 11)) 65 47 (I 65 0)) 65 48 (I 65 1)) 65 49 (I 65 35)) 65 50 (I 65 39)) 65 51 (I 65 40)) 96 66 1 16) (d := 97) (s := 67) (w := 6) (q := 4) rfl rfl (by decide)))).trans (cpq_s (cpB (wr (wr (wr (wr (wr (wr (wr I 65 45 1) 65 46 (I 65 11)) 65 47 (I 65 0)) 65 48 (I 65 1)) 65 49 (I 65 35)) 65 50 (I 65 39)) 65 51 (I 65 40)) 96 66 1 16) (d := 97) (s := 67) (w := 6) (q := 5) rfl rfl (by decide))).trans (cpq_e (cpB (wr (wr (wr (wr (wr (wr (wr I 65 45 1) 65 46 (I 65 11)) 65 47 (I 65 0)) 65 48 (I 65 1)) 65 49 (I 65 35)) 65 50 (I 65 39)) 65 51 (I 65 40)) 96 66 1 16) 97 67 6 i))) ?_
      exact ih
  · intro i hi ih
    refine v_iload_n dX9_image_55 rfl 0 rfl ?_
    refine v_bipush (v := 16) dX9_image_56 (by decide) ?_
    refine v_icmp_geN (a := i) (b := 16) (tgt := 79) dX9_image_58 (by decide) rfl rfl (by omega) (by omega) (fun h => by exfalso; omega) (fun h10 => ?_)
    refine v_aload_n dX9_image_61 rfl 1 rfl ?_
    refine v_get (v := .ref (g.1 + 96)) fa_X9_169 dX9_image_62 rfl (by decide) (ltn rfl) rfl ?_
    refine v_iload_n dX9_image_65 rfl 0 rfl ?_
    refine v_aload_n dX9_image_66 rfl 1 rfl ?_
    refine v_get (v := .ref (g.1 + 66)) fa_X9_16 dX9_image_67 rfl (by decide) (ltn rfl) rfl ?_
    refine v_iload_n dX9_image_70 rfl 0 rfl ?_
    refine v_iaload (len := 16) (j := i) dX9_image_71 rfl (ltn rfl) rfl (by decide) rfl (by omega) ?_
    refine v_is (y := (wr (wr (wr (wr (wr (wr (wr I 65 45 1) 65 46 (I 65 11)) 65 47 (I 65 0)) 65 48 (I 65 1)) 65 49 (I 65 35)) 65 50 (I 65 39)) 65 51 (I 65 40)) 66 i) (by rfl) ?_
    refine v_iastore (len := 16) (j := i) dX9_image_72 rfl (ltn rfl) rfl (by decide) rfl (by omega) ?_
    refine v_inc (v := nI (i + 1)) (lv2 := [(1, .int (nI (i + 1))), (0, .ref (g.1 + 65))]) dX9_image_73 0 rfl (nx_inc rfl) (by decide) rfl ?_
    refine v_goto (tgt := 55) dX9_image_76 (by decide) ?_
    refine v_I (I2 := (cpB (wr (wr (wr (wr (wr (wr (wr I 65 45 1) 65 46 (I 65 11)) 65 47 (I 65 0)) 65 48 (I 65 1)) 65 49 (I 65 35)) 65 50 (I 65 39)) 65 51 (I 65 40)) 96 66 1 (i + 1))) (by exact (((congrArg (fun z => wr z 96 i ((wr (wr (wr (wr (wr (wr (wr I 65 45 1) 65 46 (I 65 11)) 65 47 (I 65 0)) 65 48 (I 65 1)) 65 49 (I 65 35)) 65 50 (I 65 39)) 65 51 (I 65 40)) 66 i)) (cpq_0 (wr (wr (wr (wr (wr (wr (wr I 65 45 1) 65 46 (I 65 11)) 65 47 (I 65 0)) 65 48 (I 65 1)) 65 49 (I 65 35)) 65 50 (I 65 39)) 65 51 (I 65 40)) 96 66 1 i)).trans (cpq_s (wr (wr (wr (wr (wr (wr (wr I 65 45 1) 65 46 (I 65 11)) 65 47 (I 65 0)) 65 48 (I 65 1)) 65 49 (I 65 35)) 65 50 (I 65 39)) 65 51 (I 65 40)) (d := 96) (s := 66) (w := 1) (q := 0) rfl rfl (by decide))).trans (cpq_e (wr (wr (wr (wr (wr (wr (wr I 65 45 1) 65 46 (I 65 11)) 65 47 (I 65 0)) 65 48 (I 65 1)) 65 49 (I 65 35)) 65 50 (I 65 39)) 65 51 (I 65 40)) 96 66 1 i))) ?_
    exact ih
set_option maxRecDepth 100000 in
set_option maxHeartbeats 2000000 in
theorem c_X9_undo {g : Gl} {I : Ty} {L : TL} {na nt ni m : Nat} {nl : Nat → Nat}   : Ct g yX9_undo cX9_undo 2 (some .int) 0 0 0 [.ref (g.1 + 65)] I L (RT na nt ni) (NT nl) (NB + m) (Ps (some (.int (ifc (I 65 45 = 0) (-3) (I 65 47)))) (ifc (I 65 45 = 0) I (undI I)) L (RT na nt ni) (NT nl) (NB + m)) := by
  refine ct_of (by decide +kernel) (Nat.le_of_ble_eq_true rfl) (fun F hnm hr => ?_)
  clear hnm
  show V g F cX9_undo RX9 2 0 0 [(0, .ref (g.1 + 65))] [] I L (RT na nt ni) (NT nl) (NB + m) 0 0
  refine v_aload_n dX9_undo_0 rfl 0 rfl ?_
  refine v_get (v := .int (I 65 45)) fa_X9_147 dX9_undo_1 rfl (by decide) (ltn rfl) rfl ?_
  refine v_if_ne (tgt := 10) dX9_undo_4 (by decide) (fun h2 => ?_) (fun h2 => ?_)
  · refine v_aload_n dX9_undo_10 rfl 0 rfl ?_
    refine v_aload_n dX9_undo_11 rfl 0 rfl ?_
    refine v_get (v := .int (I 65 46)) fa_X9_151 dX9_undo_12 rfl (by decide) (ltn rfl) rfl ?_
    refine v_puti pa_X9_44 dX9_undo_15 rfl (by decide) (ltn rfl) (by show 11 < 73; decide) rfl ?_
    refine v_aload_n dX9_undo_18 rfl 0 rfl ?_
    refine v_aload_n dX9_undo_19 rfl 0 rfl ?_
    refine v_get (v := .int (I 65 47)) fa_X9_154 dX9_undo_20 rfl (by decide) (ltn rfl) rfl ?_
    refine v_puti pa_X9_7 dX9_undo_23 rfl (by decide) (ltn rfl) (by show 0 < 73; decide) rfl ?_
    refine v_aload_n dX9_undo_26 rfl 0 rfl ?_
    refine v_aload_n dX9_undo_27 rfl 0 rfl ?_
    refine v_get (v := .int (I 65 48)) fa_X9_157 dX9_undo_28 rfl (by decide) (ltn rfl) rfl ?_
    refine v_puti pa_X9_13 dX9_undo_31 rfl (by decide) (ltn rfl) (by show 1 < 73; decide) rfl ?_
    refine v_aload_n dX9_undo_34 rfl 0 rfl ?_
    refine v_aload_n dX9_undo_35 rfl 0 rfl ?_
    refine v_get (v := .int (I 65 49)) fa_X9_160 dX9_undo_36 rfl (by decide) (ltn rfl) rfl ?_
    refine v_puti pa_X9_117 dX9_undo_39 rfl (by decide) (ltn rfl) (by show 35 < 73; decide) rfl ?_
    refine v_aload_n dX9_undo_42 rfl 0 rfl ?_
    refine v_aload_n dX9_undo_43 rfl 0 rfl ?_
    refine v_get (v := .int (I 65 50)) fa_X9_163 dX9_undo_44 rfl (by decide) (ltn rfl) rfl ?_
    refine v_puti pa_X9_129 dX9_undo_47 rfl (by decide) (ltn rfl) (by show 39 < 73; decide) rfl ?_
    refine v_aload_n dX9_undo_50 rfl 0 rfl ?_
    refine v_aload_n dX9_undo_51 rfl 0 rfl ?_
    refine v_get (v := .int (I 65 51)) fa_X9_166 dX9_undo_52 rfl (by decide) (ltn rfl) rfl ?_
    refine v_puti pa_X9_132 dX9_undo_55 rfl (by decide) (ltn rfl) (by show 40 < 73; decide) rfl ?_
    refine v_iconst (v := 0) dX9_undo_58 (by decide) ?_
    refine v_istore_n (lv2 := [(1, .int 0), (0, .ref (g.1 + 65))]) dX9_undo_59 rfl (by decide) rfl ?_
    refine v_lv (lv2 := [(1, .int (nI 0)), (0, .ref (g.1 + 65))]) (by rfl) ?_
    refine v_I (I2 := (cpB (wr (wr (wr (wr (wr (wr I 65 11 (I 65 46)) 65 0 (I 65 47)) 65 1 (I 65 48)) 65 35 (I 65 49)) 65 39 (I 65 50)) 65 40 (I 65 51)) 66 96 1 0)) (by exact cpB_0 (wr (wr (wr (wr (wr (wr I 65 11 (I 65 46)) 65 0 (I 65 47)) 65 1 (I 65 48)) 65 35 (I 65 49)) 65 39 (I 65 50)) 65 40 (I 65 51)) 66 96 1) ?_
    refine dloop (P := fun i => V g F cX9_undo RX9 2 0 60 [(1, .int (nI i)), (0, .ref (g.1 + 65))] [] (cpB (wr (wr (wr (wr (wr (wr I 65 11 (I 65 46)) 65 0 (I 65 47)) 65 1 (I 65 48)) 65 35 (I 65 49)) 65 39 (I 65 50)) 65 40 (I 65 51)) 66 96 1 i) L (RT na nt ni) (NT nl) (NB + m) 0 0) 16 ?_ ?_ 0 (Nat.zero_le _)
    · refine v_iload_n dX9_undo_60 rfl 0 rfl ?_
      refine v_bipush (v := 16) dX9_undo_61 (by decide) ?_
      refine v_icmp_geN (a := 16) (b := 16) (tgt := 84) dX9_undo_63 (by decide) rfl rfl (by omega) (by omega) (fun h3 => ?_) (fun h => by exfalso; omega)
      refine v_iconst (v := 0) dX9_undo_84 (by decide) ?_
      refine v_istore_n (lv2 := [(1, .int 0), (0, .ref (g.1 + 65))]) dX9_undo_85 rfl (by decide) rfl ?_
      refine v_lv (lv2 := [(1, .int (nI 0)), (0, .ref (g.1 + 65))]) (by rfl) ?_
      refine v_I (I2 := (cpB (cpB (wr (wr (wr (wr (wr (wr I 65 11 (I 65 46)) 65 0 (I 65 47)) 65 1 (I 65 48)) 65 35 (I 65 49)) 65 39 (I 65 50)) 65 40 (I 65 51)) 66 96 1 16) 67 97 6 0)) (by exact cpB_0 (cpB (wr (wr (wr (wr (wr (wr I 65 11 (I 65 46)) 65 0 (I 65 47)) 65 1 (I 65 48)) 65 35 (I 65 49)) 65 39 (I 65 50)) 65 40 (I 65 51)) 66 96 1 16) 67 97 6) ?_
      refine dloop (P := fun i => V g F cX9_undo RX9 2 0 86 [(1, .int (nI i)), (0, .ref (g.1 + 65))] [] (cpB (cpB (wr (wr (wr (wr (wr (wr I 65 11 (I 65 46)) 65 0 (I 65 47)) 65 1 (I 65 48)) 65 35 (I 65 49)) 65 39 (I 65 50)) 65 40 (I 65 51)) 66 96 1 16) 67 97 6 i) L (RT na nt ni) (NT nl) (NB + m) 0 0) 6 ?_ ?_ 0 (Nat.zero_le _)
      · refine v_iload_n dX9_undo_86 rfl 0 rfl ?_
        refine v_bipush (v := 6) dX9_undo_87 (by decide) ?_
        refine v_icmp_geN (a := 6) (b := 6) (tgt := 170) dX9_undo_89 (by decide) rfl rfl (by omega) (by omega) (fun h4 => ?_) (fun h => by exfalso; omega)
        refine v_iconst (v := 0) dX9_undo_170 (by decide) ?_
        refine v_istore_n (lv2 := [(1, .int 0), (0, .ref (g.1 + 65))]) dX9_undo_171 rfl (by decide) rfl ?_
        refine v_lv (lv2 := [(1, .int (nI 0)), (0, .ref (g.1 + 65))]) (by rfl) ?_
        refine v_I (I2 := (cpB (cpB (cpB (wr (wr (wr (wr (wr (wr I 65 11 (I 65 46)) 65 0 (I 65 47)) 65 1 (I 65 48)) 65 35 (I 65 49)) 65 39 (I 65 50)) 65 40 (I 65 51)) 66 96 1 16) 67 97 6 6) 73 103 1 0)) (by exact cpB_0 (cpB (cpB (wr (wr (wr (wr (wr (wr I 65 11 (I 65 46)) 65 0 (I 65 47)) 65 1 (I 65 48)) 65 35 (I 65 49)) 65 39 (I 65 50)) 65 40 (I 65 51)) 66 96 1 16) 67 97 6 6) 73 103 1) ?_
        refine dloop (P := fun i => V g F cX9_undo RX9 2 0 172 [(1, .int (nI i)), (0, .ref (g.1 + 65))] [] (cpB (cpB (cpB (wr (wr (wr (wr (wr (wr I 65 11 (I 65 46)) 65 0 (I 65 47)) 65 1 (I 65 48)) 65 35 (I 65 49)) 65 39 (I 65 50)) 65 40 (I 65 51)) 66 96 1 16) 67 97 6 6) 73 103 1 i) L (RT na nt ni) (NT nl) (NB + m) 0 0) 24 ?_ ?_ 0 (Nat.zero_le _)
        · refine v_iload_n dX9_undo_172 rfl 0 rfl ?_
          refine v_bipush (v := 24) dX9_undo_173 (by decide) ?_
          refine v_icmp_geN (a := 24) (b := 24) (tgt := 196) dX9_undo_175 (by decide) rfl rfl (by omega) (by omega) (fun h5 => ?_) (fun h => by exfalso; omega)
          refine v_iconst (v := 0) dX9_undo_196 (by decide) ?_
          refine v_istore_n (lv2 := [(1, .int 0), (0, .ref (g.1 + 65))]) dX9_undo_197 rfl (by decide) rfl ?_
          refine v_lv (lv2 := [(1, .int (nI 0)), (0, .ref (g.1 + 65))]) (by rfl) ?_
          refine v_I (I2 := (cpB (cpB (cpB (cpB (wr (wr (wr (wr (wr (wr I 65 11 (I 65 46)) 65 0 (I 65 47)) 65 1 (I 65 48)) 65 35 (I 65 49)) 65 39 (I 65 50)) 65 40 (I 65 51)) 66 96 1 16) 67 97 6 6) 73 103 1 24) 89 104 3 0)) (by exact cpB_0 (cpB (cpB (cpB (wr (wr (wr (wr (wr (wr I 65 11 (I 65 46)) 65 0 (I 65 47)) 65 1 (I 65 48)) 65 35 (I 65 49)) 65 39 (I 65 50)) 65 40 (I 65 51)) 66 96 1 16) 67 97 6 6) 73 103 1 24) 89 104 3) ?_
          refine dloop (P := fun i => V g F cX9_undo RX9 2 0 198 [(1, .int (nI i)), (0, .ref (g.1 + 65))] [] (cpB (cpB (cpB (cpB (wr (wr (wr (wr (wr (wr I 65 11 (I 65 46)) 65 0 (I 65 47)) 65 1 (I 65 48)) 65 35 (I 65 49)) 65 39 (I 65 50)) 65 40 (I 65 51)) 66 96 1 16) 67 97 6 6) 73 103 1 24) 89 104 3 i) L (RT na nt ni) (NT nl) (NB + m) 0 0) 5 ?_ ?_ 0 (Nat.zero_le _)
          · refine v_iload_n dX9_undo_198 rfl 0 rfl ?_
            refine v_iconst (v := 5) dX9_undo_199 (by decide) ?_
            refine v_icmp_geN (a := 5) (b := 5) (tgt := 245) dX9_undo_200 (by decide) rfl rfl (by omega) (by omega) (fun h6 => ?_) (fun h => by exfalso; omega)
            refine v_iconst (v := 0) dX9_undo_245 (by decide) ?_
            refine v_istore_n (lv2 := [(1, .int 0), (0, .ref (g.1 + 65))]) dX9_undo_246 rfl (by decide) rfl ?_
            refine v_lv (lv2 := [(1, .int (nI 0)), (0, .ref (g.1 + 65))]) (by rfl) ?_
            refine v_I (I2 := (cpB (cpB (cpB (cpB (cpB (wr (wr (wr (wr (wr (wr I 65 11 (I 65 46)) 65 0 (I 65 47)) 65 1 (I 65 48)) 65 35 (I 65 49)) 65 39 (I 65 50)) 65 40 (I 65 51)) 66 96 1 16) 67 97 6 6) 73 103 1 24) 89 104 3 5) 92 107 4 0)) (by exact cpB_0 (cpB (cpB (cpB (cpB (wr (wr (wr (wr (wr (wr I 65 11 (I 65 46)) 65 0 (I 65 47)) 65 1 (I 65 48)) 65 35 (I 65 49)) 65 39 (I 65 50)) 65 40 (I 65 51)) 66 96 1 16) 67 97 6 6) 73 103 1 24) 89 104 3 5) 92 107 4) ?_
            refine dloop (P := fun i => V g F cX9_undo RX9 2 0 247 [(1, .int (nI i)), (0, .ref (g.1 + 65))] [] (cpB (cpB (cpB (cpB (cpB (wr (wr (wr (wr (wr (wr I 65 11 (I 65 46)) 65 0 (I 65 47)) 65 1 (I 65 48)) 65 35 (I 65 49)) 65 39 (I 65 50)) 65 40 (I 65 51)) 66 96 1 16) 67 97 6 6) 73 103 1 24) 89 104 3 5) 92 107 4 i) L (RT na nt ni) (NT nl) (NB + m) 0 0) 8 ?_ ?_ 0 (Nat.zero_le _)
            · refine v_iload_n dX9_undo_247 rfl 0 rfl ?_
              refine v_bipush (v := 8) dX9_undo_248 (by decide) ?_
              refine v_icmp_geN (a := 8) (b := 8) (tgt := 307) dX9_undo_250 (by decide) rfl rfl (by omega) (by omega) (fun h7 => ?_) (fun h => by exfalso; omega)
              refine v_aload_n dX9_undo_307 rfl 1 rfl ?_
              refine v_get (v := .int ((cpB (cpB (cpB (cpB (cpB (wr (wr (wr (wr (wr (wr I 65 11 (I 65 46)) 65 0 (I 65 47)) 65 1 (I 65 48)) 65 35 (I 65 49)) 65 39 (I 65 50)) 65 40 (I 65 51)) 66 96 1 16) 67 97 6 6) 73 103 1 24) 89 104 3 5) 92 107 4 8) 65 0)) fa_X9_7 dX9_undo_308 rfl (by decide) (ltn rfl) rfl ?_
              exact v_iret hr dX9_undo_311 (psi (by rw [ifc_f h2]; rfl) (by rw [ifc_f h2]; rfl))
            · intro i hi ih
              refine v_iload_n dX9_undo_247 rfl 0 rfl ?_
              refine v_bipush (v := 8) dX9_undo_248 (by decide) ?_
              refine v_icmp_geN (a := i) (b := 8) (tgt := 307) dX9_undo_250 (by decide) rfl rfl (by omega) (by omega) (fun h => by exfalso; omega) (fun h8 => ?_)
              refine v_aload_n dX9_undo_253 rfl 1 rfl ?_
              refine v_get (v := .ref (g.1 + 92)) fa_X9_135 dX9_undo_254 rfl (by decide) (ltn rfl) rfl ?_
              refine v_iload_n dX9_undo_257 rfl 0 rfl ?_
              refine v_aload_n dX9_undo_258 rfl 1 rfl ?_
              refine v_get (v := .ref (g.1 + 107)) fa_X9_202 dX9_undo_259 rfl (by decide) (ltn rfl) rfl ?_
              refine v_iload_n dX9_undo_262 rfl 0 rfl ?_
              refine v_iaload (len := 8) (j := i) dX9_undo_263 rfl (ltn rfl) rfl (by decide) rfl (by omega) ?_
              refine v_is (y := (cpB (cpB (cpB (cpB (wr (wr (wr (wr (wr (wr I 65 11 (I 65 46)) 65 0 (I 65 47)) 65 1 (I 65 48)) 65 35 (I 65 49)) 65 39 (I 65 50)) 65 40 (I 65 51)) 66 96 1 16) 67 97 6 6) 73 103 1 24) 89 104 3 5) 107 i) (by rfl) ?_
              refine v_iastore (len := 8) (j := i) dX9_undo_264 rfl (ltn rfl) rfl (by decide) rfl (by omega) ?_
              refine v_aload_n dX9_undo_265 rfl 1 rfl ?_
              refine v_get (v := .ref (g.1 + 93)) fa_X9_138 dX9_undo_266 rfl (by decide) (ltn rfl) rfl ?_
              refine v_iload_n dX9_undo_269 rfl 0 rfl ?_
              refine v_aload_n dX9_undo_270 rfl 1 rfl ?_
              refine v_get (v := .ref (g.1 + 108)) fa_X9_205 dX9_undo_271 rfl (by decide) (ltn rfl) rfl ?_
              refine v_iload_n dX9_undo_274 rfl 0 rfl ?_
              refine v_iaload (len := 8) (j := i) dX9_undo_275 rfl (ltn rfl) rfl (by decide) rfl (by omega) ?_
              refine v_is (y := (cpB (cpB (cpB (cpB (wr (wr (wr (wr (wr (wr I 65 11 (I 65 46)) 65 0 (I 65 47)) 65 1 (I 65 48)) 65 35 (I 65 49)) 65 39 (I 65 50)) 65 40 (I 65 51)) 66 96 1 16) 67 97 6 6) 73 103 1 24) 89 104 3 5) 108 i) (by first | (rfl) | (simp only [va_up]; rfl) | (simp [va_up]; rfl)) ?_
              refine v_iastore (len := 8) (j := i) dX9_undo_276 rfl (ltn rfl) rfl (by decide) rfl (by omega) ?_
              refine v_aload_n dX9_undo_277 rfl 1 rfl ?_
              refine v_get (v := .ref (g.1 + 94)) fa_X9_141 dX9_undo_278 rfl (by decide) (ltn rfl) rfl ?_
              refine v_iload_n dX9_undo_281 rfl 0 rfl ?_
              refine v_aload_n dX9_undo_282 rfl 1 rfl ?_
              refine v_get (v := .ref (g.1 + 109)) fa_X9_208 dX9_undo_283 rfl (by decide) (ltn rfl) rfl ?_
              refine v_iload_n dX9_undo_286 rfl 0 rfl ?_
              refine v_iaload (len := 8) (j := i) dX9_undo_287 rfl (ltn rfl) rfl (by decide) rfl (by omega) ?_
              refine v_is (y := (cpB (cpB (cpB (cpB (wr (wr (wr (wr (wr (wr I 65 11 (I 65 46)) 65 0 (I 65 47)) 65 1 (I 65 48)) 65 35 (I 65 49)) 65 39 (I 65 50)) 65 40 (I 65 51)) 66 96 1 16) 67 97 6 6) 73 103 1 24) 89 104 3 5) 109 i) (by first | (rfl) | (simp only [va_up]; rfl) | (simp [va_up]; rfl)) ?_
              refine v_iastore (len := 8) (j := i) dX9_undo_288 rfl (ltn rfl) rfl (by decide) rfl (by omega) ?_
              refine v_aload_n dX9_undo_289 rfl 1 rfl ?_
              refine v_get (v := .ref (g.1 + 95)) fa_X9_144 dX9_undo_290 rfl (by decide) (ltn rfl) rfl ?_
              refine v_iload_n dX9_undo_293 rfl 0 rfl ?_
              refine v_aload_n dX9_undo_294 rfl 1 rfl ?_
              refine v_get (v := .ref (g.1 + 110)) fa_X9_211 dX9_undo_295 rfl (by decide) (ltn rfl) rfl ?_
              refine v_iload_n dX9_undo_298 rfl 0 rfl ?_
              refine v_iaload (len := 8) (j := i) dX9_undo_299 rfl (ltn rfl) rfl (by decide) rfl (by omega) ?_
              refine v_is (y := (cpB (cpB (cpB (cpB (wr (wr (wr (wr (wr (wr I 65 11 (I 65 46)) 65 0 (I 65 47)) 65 1 (I 65 48)) 65 35 (I 65 49)) 65 39 (I 65 50)) 65 40 (I 65 51)) 66 96 1 16) 67 97 6 6) 73 103 1 24) 89 104 3 5) 110 i) (by first | (rfl) | (simp only [va_up]; rfl) | (simp [va_up]; rfl)) ?_
              refine v_iastore (len := 8) (j := i) dX9_undo_300 rfl (ltn rfl) rfl (by decide) rfl (by omega) ?_
              refine v_inc (v := nI (i + 1)) (lv2 := [(1, .int (nI (i + 1))), (0, .ref (g.1 + 65))]) dX9_undo_301 0 rfl (nx_inc rfl) (by decide) rfl ?_
              refine v_goto (tgt := 247) dX9_undo_304 (by decide) ?_
              refine v_I (I2 := (cpB (cpB (cpB (cpB (cpB (wr (wr (wr (wr (wr (wr I 65 11 (I 65 46)) 65 0 (I 65 47)) 65 1 (I 65 48)) 65 35 (I 65 49)) 65 39 (I 65 50)) 65 40 (I 65 51)) 66 96 1 16) 67 97 6 6) 73 103 1 24) 89 104 3 5) 92 107 4 (i + 1))) (by exact (((congrArg (fun z => wr z 95 i ((cpB (cpB (cpB (cpB (wr (wr (wr (wr (wr (wr I 65 11 (I 65 46)) 65 0 (I 65 47)) 65 1 (I 65 48)) 65 35 (I 65 49)) 65 39 (I 65 50)) 65 40 (I 65 51)) 66 96 1 16) 67 97 6 6) 73 103 1 24) 89 104 3 5) 110 i)) ((congrArg (fun z => wr z 94 i ((cpB (cpB (cpB (cpB (wr (wr (wr (wr (wr (wr I 65 11 (I 65 46)) 65 0 (I 65 47)) 65 1 (I 65 48)) 65 35 (I 65 49)) 65 39 (I 65 50)) 65 40 (I 65 51)) 66 96 1 16) 67 97 6 6) 73 103 1 24) 89 104 3 5) 109 i)) ((congrArg (fun z => wr z 93 i ((cpB (cpB (cpB (cpB (wr (wr (wr (wr (wr (wr I 65 11 (I 65 46)) 65 0 (I 65 47)) 65 1 (I 65 48)) 65 35 (I 65 49)) 65 39 (I 65 50)) 65 40 (I 65 51)) 66 96 1 16) 67 97 6 6) 73 103 1 24) 89 104 3 5) 108 i)) ((congrArg (fun z => wr z 92 i ((cpB (cpB (cpB (cpB (wr (wr (wr (wr (wr (wr I 65 11 (I 65 46)) 65 0 (I 65 47)) 65 1 (I 65 48)) 65 35 (I 65 49)) 65 39 (I 65 50)) 65 40 (I 65 51)) 66 96 1 16) 67 97 6 6) 73 103 1 24) 89 104 3 5) 107 i)) (cpq_0 (cpB (cpB (cpB (cpB (wr (wr (wr (wr (wr (wr I 65 11 (I 65 46)) 65 0 (I 65 47)) 65 1 (I 65 48)) 65 35 (I 65 49)) 65 39 (I 65 50)) 65 40 (I 65 51)) 66 96 1 16) 67 97 6 6) 73 103 1 24) 89 104 3 5) 92 107 4 i)).trans (cpq_s (cpB (cpB (cpB (cpB (wr (wr (wr (wr (wr (wr I 65 11 (I 65 46)) 65 0 (I 65 47)) 65 1 (I 65 48)) 65 35 (I 65 49)) 65 39 (I 65 50)) 65 40 (I 65 51)) 66 96 1 16) 67 97 6 6) 73 103 1 24) 89 104 3 5) (d := 92) (s := 107) (w := 4) (q := 0) rfl rfl (by decide)))).trans (cpq_s (cpB (cpB (cpB (cpB (wr (wr (wr (wr (wr (wr I 65 11 (I 65 46)) 65 0 (I 65 47)) 65 1 (I 65 48)) 65 35 (I 65 49)) 65 39 (I 65 50)) 65 40 (I 65 51)) 66 96 1 16) 67 97 6 6) 73 103 1 24) 89 104 3 5) (d := 92) (s := 107) (w := 4) (q := 1) rfl rfl (by decide)))).trans (cpq_s (cpB (cpB (cpB (cpB (wr (wr (wr (wr (wr (wr I 65 11 (I 65 46)) 65 0 (I 65 47)) 65 1 (I 65 48)) 65 35 (I 65 49)) 65 39 (I 65 50)) 65 40 (I 65 51)) 66 96 1 16) 67 97 6 6) 73 103 1 24) 89 104 3 5) (d := 92) (s := 107) (w := 4) (q := 2) rfl rfl (by decide)))).trans (cpq_s (cpB (cpB (cpB (cpB (wr (wr (wr (wr (wr (wr I 65 11 (I 65 46)) 65 0 (I 65 47)) 65 1 (I 65 48)) 65 35 (I 65 49)) 65 39 (I 65 50)) 65 40 (I 65 51)) 66 96 1 16) 67 97 6 6) 73 103 1 24) 89 104 3 5) (d := 92) (s := 107) (w := 4) (q := 3) rfl rfl (by decide))).trans (cpq_e (cpB (cpB (cpB (cpB (wr (wr (wr (wr (wr (wr I 65 11 (I 65 46)) 65 0 (I 65 47)) 65 1 (I 65 48)) 65 35 (I 65 49)) 65 39 (I 65 50)) 65 40 (I 65 51)) 66 96 1 16) 67 97 6 6) 73 103 1 24) 89 104 3 5) 92 107 4 i))) ?_
              exact ih
          · intro i hi ih
            refine v_iload_n dX9_undo_198 rfl 0 rfl ?_
            refine v_iconst (v := 5) dX9_undo_199 (by decide) ?_
            refine v_icmp_geN (a := i) (b := 5) (tgt := 245) dX9_undo_200 (by decide) rfl rfl (by omega) (by omega) (fun h => by exfalso; omega) (fun h9 => ?_)
            refine v_aload_n dX9_undo_203 rfl 1 rfl ?_
            refine v_get (v := .ref (g.1 + 89)) fa_X9_120 dX9_undo_204 rfl (by decide) (ltn rfl) rfl ?_
            refine v_iload_n dX9_undo_207 rfl 0 rfl ?_
            refine v_aload_n dX9_undo_208 rfl 1 rfl ?_
            refine v_get (v := .ref (g.1 + 104)) fa_X9_193 dX9_undo_209 rfl (by decide) (ltn rfl) rfl ?_
            refine v_iload_n dX9_undo_212 rfl 0 rfl ?_
            refine v_iaload (len := 5) (j := i) dX9_undo_213 rfl (ltn rfl) rfl (by decide) rfl (by omega) ?_
            refine v_is (y := (cpB (cpB (cpB (wr (wr (wr (wr (wr (wr I 65 11 (I 65 46)) 65 0 (I 65 47)) 65 1 (I 65 48)) 65 35 (I 65 49)) 65 39 (I 65 50)) 65 40 (I 65 51)) 66 96 1 16) 67 97 6 6) 73 103 1 24) 104 i) (by rfl) ?_
            refine v_iastore (len := 5) (j := i) dX9_undo_214 rfl (ltn rfl) rfl (by decide) rfl (by omega) ?_
            refine v_aload_n dX9_undo_215 rfl 1 rfl ?_
            refine v_get (v := .ref (g.1 + 90)) fa_X9_123 dX9_undo_216 rfl (by decide) (ltn rfl) rfl ?_
            refine v_iload_n dX9_undo_219 rfl 0 rfl ?_
            refine v_aload_n dX9_undo_220 rfl 1 rfl ?_
            refine v_get (v := .ref (g.1 + 105)) fa_X9_196 dX9_undo_221 rfl (by decide) (ltn rfl) rfl ?_
            refine v_iload_n dX9_undo_224 rfl 0 rfl ?_
            refine v_iaload (len := 5) (j := i) dX9_undo_225 rfl (ltn rfl) rfl (by decide) rfl (by omega) ?_
            refine v_is (y := (cpB (cpB (cpB (wr (wr (wr (wr (wr (wr I 65 11 (I 65 46)) 65 0 (I 65 47)) 65 1 (I 65 48)) 65 35 (I 65 49)) 65 39 (I 65 50)) 65 40 (I 65 51)) 66 96 1 16) 67 97 6 6) 73 103 1 24) 105 i) (by first | (rfl) | (simp only [va_up]; rfl) | (simp [va_up]; rfl)) ?_
            refine v_iastore (len := 5) (j := i) dX9_undo_226 rfl (ltn rfl) rfl (by decide) rfl (by omega) ?_
            refine v_aload_n dX9_undo_227 rfl 1 rfl ?_
            refine v_get (v := .ref (g.1 + 91)) fa_X9_126 dX9_undo_228 rfl (by decide) (ltn rfl) rfl ?_
            refine v_iload_n dX9_undo_231 rfl 0 rfl ?_
            refine v_aload_n dX9_undo_232 rfl 1 rfl ?_
            refine v_get (v := .ref (g.1 + 106)) fa_X9_199 dX9_undo_233 rfl (by decide) (ltn rfl) rfl ?_
            refine v_iload_n dX9_undo_236 rfl 0 rfl ?_
            refine v_iaload (len := 5) (j := i) dX9_undo_237 rfl (ltn rfl) rfl (by decide) rfl (by omega) ?_
            refine v_is (y := (cpB (cpB (cpB (wr (wr (wr (wr (wr (wr I 65 11 (I 65 46)) 65 0 (I 65 47)) 65 1 (I 65 48)) 65 35 (I 65 49)) 65 39 (I 65 50)) 65 40 (I 65 51)) 66 96 1 16) 67 97 6 6) 73 103 1 24) 106 i) (by first | (rfl) | (simp only [va_up]; rfl) | (simp [va_up]; rfl)) ?_
            refine v_iastore (len := 5) (j := i) dX9_undo_238 rfl (ltn rfl) rfl (by decide) rfl (by omega) ?_
            refine v_inc (v := nI (i + 1)) (lv2 := [(1, .int (nI (i + 1))), (0, .ref (g.1 + 65))]) dX9_undo_239 0 rfl (nx_inc rfl) (by decide) rfl ?_
            refine v_goto (tgt := 198) dX9_undo_242 (by decide) ?_
            refine v_I (I2 := (cpB (cpB (cpB (cpB (wr (wr (wr (wr (wr (wr I 65 11 (I 65 46)) 65 0 (I 65 47)) 65 1 (I 65 48)) 65 35 (I 65 49)) 65 39 (I 65 50)) 65 40 (I 65 51)) 66 96 1 16) 67 97 6 6) 73 103 1 24) 89 104 3 (i + 1))) (by exact (((congrArg (fun z => wr z 91 i ((cpB (cpB (cpB (wr (wr (wr (wr (wr (wr I 65 11 (I 65 46)) 65 0 (I 65 47)) 65 1 (I 65 48)) 65 35 (I 65 49)) 65 39 (I 65 50)) 65 40 (I 65 51)) 66 96 1 16) 67 97 6 6) 73 103 1 24) 106 i)) ((congrArg (fun z => wr z 90 i ((cpB (cpB (cpB (wr (wr (wr (wr (wr (wr I 65 11 (I 65 46)) 65 0 (I 65 47)) 65 1 (I 65 48)) 65 35 (I 65 49)) 65 39 (I 65 50)) 65 40 (I 65 51)) 66 96 1 16) 67 97 6 6) 73 103 1 24) 105 i)) ((congrArg (fun z => wr z 89 i ((cpB (cpB (cpB (wr (wr (wr (wr (wr (wr I 65 11 (I 65 46)) 65 0 (I 65 47)) 65 1 (I 65 48)) 65 35 (I 65 49)) 65 39 (I 65 50)) 65 40 (I 65 51)) 66 96 1 16) 67 97 6 6) 73 103 1 24) 104 i)) (cpq_0 (cpB (cpB (cpB (wr (wr (wr (wr (wr (wr I 65 11 (I 65 46)) 65 0 (I 65 47)) 65 1 (I 65 48)) 65 35 (I 65 49)) 65 39 (I 65 50)) 65 40 (I 65 51)) 66 96 1 16) 67 97 6 6) 73 103 1 24) 89 104 3 i)).trans (cpq_s (cpB (cpB (cpB (wr (wr (wr (wr (wr (wr I 65 11 (I 65 46)) 65 0 (I 65 47)) 65 1 (I 65 48)) 65 35 (I 65 49)) 65 39 (I 65 50)) 65 40 (I 65 51)) 66 96 1 16) 67 97 6 6) 73 103 1 24) (d := 89) (s := 104) (w := 3) (q := 0) rfl rfl (by decide)))).trans (cpq_s (cpB (cpB (cpB (wr (wr (wr (wr (wr (wr I 65 11 (I 65 46)) 65 0 (I 65 47)) 65 1 (I 65 48)) 65 35 (I 65 49)) 65 39 (I 65 50)) 65 40 (I 65 51)) 66 96 1 16) 67 97 6 6) 73 103 1 24) (d := 89) (s := 104) (w := 3) (q := 1) rfl rfl (by decide)))).trans (cpq_s (cpB (cpB (cpB (wr (wr (wr (wr (wr (wr I 65 11 (I 65 46)) 65 0 (I 65 47)) 65 1 (I 65 48)) 65 35 (I 65 49)) 65 39 (I 65 50)) 65 40 (I 65 51)) 66 96 1 16) 67 97 6 6) 73 103 1 24) (d := 89) (s := 104) (w := 3) (q := 2) rfl rfl (by decide))).trans (cpq_e (cpB (cpB (cpB (wr (wr (wr (wr (wr (wr I 65 11 (I 65 46)) 65 0 (I 65 47)) 65 1 (I 65 48)) 65 35 (I 65 49)) 65 39 (I 65 50)) 65 40 (I 65 51)) 66 96 1 16) 67 97 6 6) 73 103 1 24) 89 104 3 i))) ?_
            exact ih
        · intro i hi ih
          refine v_iload_n dX9_undo_172 rfl 0 rfl ?_
          refine v_bipush (v := 24) dX9_undo_173 (by decide) ?_
          refine v_icmp_geN (a := i) (b := 24) (tgt := 196) dX9_undo_175 (by decide) rfl rfl (by omega) (by omega) (fun h => by exfalso; omega) (fun h10 => ?_)
          refine v_aload_n dX9_undo_178 rfl 1 rfl ?_
          refine v_get (v := .ref (g.1 + 73)) fa_X9_38 dX9_undo_179 rfl (by decide) (ltn rfl) rfl ?_
          refine v_iload_n dX9_undo_182 rfl 0 rfl ?_
          refine v_aload_n dX9_undo_183 rfl 1 rfl ?_
          refine v_get (v := .ref (g.1 + 103)) fa_X9_190 dX9_undo_184 rfl (by decide) (ltn rfl) rfl ?_
          refine v_iload_n dX9_undo_187 rfl 0 rfl ?_
          refine v_iaload (len := 24) (j := i) dX9_undo_188 rfl (ltn rfl) rfl (by decide) rfl (by omega) ?_
          refine v_is (y := (cpB (cpB (wr (wr (wr (wr (wr (wr I 65 11 (I 65 46)) 65 0 (I 65 47)) 65 1 (I 65 48)) 65 35 (I 65 49)) 65 39 (I 65 50)) 65 40 (I 65 51)) 66 96 1 16) 67 97 6 6) 103 i) (by rfl) ?_
          refine v_iastore (len := 24) (j := i) dX9_undo_189 rfl (ltn rfl) rfl (by decide) rfl (by omega) ?_
          refine v_inc (v := nI (i + 1)) (lv2 := [(1, .int (nI (i + 1))), (0, .ref (g.1 + 65))]) dX9_undo_190 0 rfl (nx_inc rfl) (by decide) rfl ?_
          refine v_goto (tgt := 172) dX9_undo_193 (by decide) ?_
          refine v_I (I2 := (cpB (cpB (cpB (wr (wr (wr (wr (wr (wr I 65 11 (I 65 46)) 65 0 (I 65 47)) 65 1 (I 65 48)) 65 35 (I 65 49)) 65 39 (I 65 50)) 65 40 (I 65 51)) 66 96 1 16) 67 97 6 6) 73 103 1 (i + 1))) (by exact (((congrArg (fun z => wr z 73 i ((cpB (cpB (wr (wr (wr (wr (wr (wr I 65 11 (I 65 46)) 65 0 (I 65 47)) 65 1 (I 65 48)) 65 35 (I 65 49)) 65 39 (I 65 50)) 65 40 (I 65 51)) 66 96 1 16) 67 97 6 6) 103 i)) (cpq_0 (cpB (cpB (wr (wr (wr (wr (wr (wr I 65 11 (I 65 46)) 65 0 (I 65 47)) 65 1 (I 65 48)) 65 35 (I 65 49)) 65 39 (I 65 50)) 65 40 (I 65 51)) 66 96 1 16) 67 97 6 6) 73 103 1 i)).trans (cpq_s (cpB (cpB (wr (wr (wr (wr (wr (wr I 65 11 (I 65 46)) 65 0 (I 65 47)) 65 1 (I 65 48)) 65 35 (I 65 49)) 65 39 (I 65 50)) 65 40 (I 65 51)) 66 96 1 16) 67 97 6 6) (d := 73) (s := 103) (w := 1) (q := 0) rfl rfl (by decide))).trans (cpq_e (cpB (cpB (wr (wr (wr (wr (wr (wr I 65 11 (I 65 46)) 65 0 (I 65 47)) 65 1 (I 65 48)) 65 35 (I 65 49)) 65 39 (I 65 50)) 65 40 (I 65 51)) 66 96 1 16) 67 97 6 6) 73 103 1 i))) ?_
          exact ih
      · intro i hi ih
        refine v_iload_n dX9_undo_86 rfl 0 rfl ?_
        refine v_bipush (v := 6) dX9_undo_87 (by decide) ?_
        refine v_icmp_geN (a := i) (b := 6) (tgt := 170) dX9_undo_89 (by decide) rfl rfl (by omega) (by omega) (fun h => by exfalso; omega) (fun h11 => ?_)
        refine v_aload_n dX9_undo_92 rfl 1 rfl ?_
        refine v_get (v := .ref (g.1 + 67)) fa_X9_20 dX9_undo_93 rfl (by decide) (ltn rfl) rfl ?_
        refine v_iload_n dX9_undo_96 rfl 0 rfl ?_
        refine v_aload_n dX9_undo_97 rfl 1 rfl ?_
        refine v_get (v := .ref (g.1 + 97)) fa_X9_172 dX9_undo_98 rfl (by decide) (ltn rfl) rfl ?_
        refine v_iload_n dX9_undo_101 rfl 0 rfl ?_
        refine v_iaload (len := 6) (j := i) dX9_undo_102 rfl (ltn rfl) rfl (by decide) rfl (by omega) ?_
        refine v_is (y := (cpB (wr (wr (wr (wr (wr (wr I 65 11 (I 65 46)) 65 0 (I 65 47)) 65 1 (I 65 48)) 65 35 (I 65 49)) 65 39 (I 65 50)) 65 40 (I 65 51)) 66 96 1 16) 97 i) (by rfl) ?_
        refine v_iastore (len := 6) (j := i) dX9_undo_103 rfl (ltn rfl) rfl (by decide) rfl (by omega) ?_
        refine v_aload_n dX9_undo_104 rfl 1 rfl ?_
        refine v_get (v := .ref (g.1 + 68)) fa_X9_23 dX9_undo_105 rfl (by decide) (ltn rfl) rfl ?_
        refine v_iload_n dX9_undo_108 rfl 0 rfl ?_
        refine v_aload_n dX9_undo_109 rfl 1 rfl ?_
        refine v_get (v := .ref (g.1 + 98)) fa_X9_175 dX9_undo_110 rfl (by decide) (ltn rfl) rfl ?_
        refine v_iload_n dX9_undo_113 rfl 0 rfl ?_
        refine v_iaload (len := 6) (j := i) dX9_undo_114 rfl (ltn rfl) rfl (by decide) rfl (by omega) ?_
        refine v_is (y := (cpB (wr (wr (wr (wr (wr (wr I 65 11 (I 65 46)) 65 0 (I 65 47)) 65 1 (I 65 48)) 65 35 (I 65 49)) 65 39 (I 65 50)) 65 40 (I 65 51)) 66 96 1 16) 98 i) (by first | (rfl) | (simp only [va_up]; rfl) | (simp [va_up]; rfl)) ?_
        refine v_iastore (len := 6) (j := i) dX9_undo_115 rfl (ltn rfl) rfl (by decide) rfl (by omega) ?_
        refine v_aload_n dX9_undo_116 rfl 1 rfl ?_
        refine v_get (v := .ref (g.1 + 69)) fa_X9_26 dX9_undo_117 rfl (by decide) (ltn rfl) rfl ?_
        refine v_iload_n dX9_undo_120 rfl 0 rfl ?_
        refine v_aload_n dX9_undo_121 rfl 1 rfl ?_
        refine v_get (v := .ref (g.1 + 99)) fa_X9_178 dX9_undo_122 rfl (by decide) (ltn rfl) rfl ?_
        refine v_iload_n dX9_undo_125 rfl 0 rfl ?_
        refine v_iaload (len := 6) (j := i) dX9_undo_126 rfl (ltn rfl) rfl (by decide) rfl (by omega) ?_
        refine v_is (y := (cpB (wr (wr (wr (wr (wr (wr I 65 11 (I 65 46)) 65 0 (I 65 47)) 65 1 (I 65 48)) 65 35 (I 65 49)) 65 39 (I 65 50)) 65 40 (I 65 51)) 66 96 1 16) 99 i) (by first | (rfl) | (simp only [va_up]; rfl) | (simp [va_up]; rfl)) ?_
        refine v_iastore (len := 6) (j := i) dX9_undo_127 rfl (ltn rfl) rfl (by decide) rfl (by omega) ?_
        refine v_aload_n dX9_undo_128 rfl 1 rfl ?_
        refine v_get (v := .ref (g.1 + 70)) fa_X9_29 dX9_undo_129 rfl (by decide) (ltn rfl) rfl ?_
        refine v_iload_n dX9_undo_132 rfl 0 rfl ?_
        refine v_aload_n dX9_undo_133 rfl 1 rfl ?_
        refine v_get (v := .ref (g.1 + 100)) fa_X9_181 dX9_undo_134 rfl (by decide) (ltn rfl) rfl ?_
        refine v_iload_n dX9_undo_137 rfl 0 rfl ?_
        refine v_iaload (len := 6) (j := i) dX9_undo_138 rfl (ltn rfl) rfl (by decide) rfl (by omega) ?_
        refine v_is (y := (cpB (wr (wr (wr (wr (wr (wr I 65 11 (I 65 46)) 65 0 (I 65 47)) 65 1 (I 65 48)) 65 35 (I 65 49)) 65 39 (I 65 50)) 65 40 (I 65 51)) 66 96 1 16) 100 i) (by first | (rfl) | (simp only [va_up]; rfl) | (simp [va_up]; rfl)) ?_
        refine v_iastore (len := 6) (j := i) dX9_undo_139 rfl (ltn rfl) rfl (by decide) rfl (by omega) ?_
        refine v_aload_n dX9_undo_140 rfl 1 rfl ?_
        refine v_get (v := .ref (g.1 + 71)) fa_X9_32 dX9_undo_141 rfl (by decide) (ltn rfl) rfl ?_
        refine v_iload_n dX9_undo_144 rfl 0 rfl ?_
        refine v_aload_n dX9_undo_145 rfl 1 rfl ?_
        refine v_get (v := .ref (g.1 + 101)) fa_X9_184 dX9_undo_146 rfl (by decide) (ltn rfl) rfl ?_
        refine v_iload_n dX9_undo_149 rfl 0 rfl ?_
        refine v_iaload (len := 6) (j := i) dX9_undo_150 rfl (ltn rfl) rfl (by decide) rfl (by omega) ?_
        refine v_is (y := (cpB (wr (wr (wr (wr (wr (wr I 65 11 (I 65 46)) 65 0 (I 65 47)) 65 1 (I 65 48)) 65 35 (I 65 49)) 65 39 (I 65 50)) 65 40 (I 65 51)) 66 96 1 16) 101 i) (by first | (rfl) | (simp only [va_up]; rfl) | (simp [va_up]; rfl)) ?_
        refine v_iastore (len := 6) (j := i) dX9_undo_151 rfl (ltn rfl) rfl (by decide) rfl (by omega) ?_
        refine v_aload_n dX9_undo_152 rfl 1 rfl ?_
        refine v_get (v := .ref (g.1 + 72)) fa_X9_35 dX9_undo_153 rfl (by decide) (ltn rfl) rfl ?_
        refine v_iload_n dX9_undo_156 rfl 0 rfl ?_
        refine v_aload_n dX9_undo_157 rfl 1 rfl ?_
        refine v_get (v := .ref (g.1 + 102)) fa_X9_187 dX9_undo_158 rfl (by decide) (ltn rfl) rfl ?_
        refine v_iload_n dX9_undo_161 rfl 0 rfl ?_
        refine v_iaload (len := 6) (j := i) dX9_undo_162 rfl (ltn rfl) rfl (by decide) rfl (by omega) ?_
        refine v_is (y := (cpB (wr (wr (wr (wr (wr (wr I 65 11 (I 65 46)) 65 0 (I 65 47)) 65 1 (I 65 48)) 65 35 (I 65 49)) 65 39 (I 65 50)) 65 40 (I 65 51)) 66 96 1 16) 102 i) (by first | (rfl) | (simp only [va_up]; rfl) | (simp [va_up]; rfl)) ?_
        refine v_iastore (len := 6) (j := i) dX9_undo_163 rfl (ltn rfl) rfl (by decide) rfl (by omega) ?_
        refine v_inc (v := nI (i + 1)) (lv2 := [(1, .int (nI (i + 1))), (0, .ref (g.1 + 65))]) dX9_undo_164 0 rfl (nx_inc rfl) (by decide) rfl ?_
        refine v_goto (tgt := 86) dX9_undo_167 (by decide) ?_
        refine v_I (I2 := (cpB (cpB (wr (wr (wr (wr (wr (wr I 65 11 (I 65 46)) 65 0 (I 65 47)) 65 1 (I 65 48)) 65 35 (I 65 49)) 65 39 (I 65 50)) 65 40 (I 65 51)) 66 96 1 16) 67 97 6 (i + 1))) (by exact (((congrArg (fun z => wr z 72 i ((cpB (wr (wr (wr (wr (wr (wr I 65 11 (I 65 46)) 65 0 (I 65 47)) 65 1 (I 65 48)) 65 35 (I 65 49)) 65 39 (I 65 50)) 65 40 (I 65 51)) 66 96 1 16) 102 i)) ((congrArg (fun z => wr z 71 i ((cpB (wr (wr (wr (wr (wr (wr I 65 11 (I 65 46)) 65 0 (I 65 47)) 65 1 (I 65 48)) 65 35 (I 65 49)) 65 39 (I 65 50)) 65 40 (I 65 51)) 66 96 1 16) 101 i)) ((congrArg (fun z => wr z 70 i ((cpB (wr (wr (wr (wr (wr (wr I 65 11 (I 65 46)) 65 0 (I 65 47)) 65 1 (I 65 48)) 65 35 (I 65 49)) 65 39 (I 65 50)) 65 40 (I 65 51)) 66 96 1 16) 100 i)) ((congrArg (fun z => wr z 69 i ((cpB (wr (wr (wr (wr (wr (wr I 65 11 (I 65 46)) 65 0 (I 65 47)) 65 1 (I 65 48)) 65 35 (I 65 49)) 65 39 (I 65 50)) 65 40 (I 65 51)) 66 96 1 16) 99 i)) ((congrArg (fun z => wr z 68 i ((cpB (wr (wr (wr (wr (wr (wr I 65 11 (I 65 46)) 65 0 (I 65 47)) 65 1 (I 65 48)) 65 35 (I 65 49)) 65 39 (I 65 50)) 65 40 (I 65 51)) 66 96 1 16) 98 i)) ((congrArg (fun z => wr z 67 i ((cpB (wr (wr (wr (wr (wr (wr I 65 11 (I 65 46)) 65 0 (I 65 47)) 65 1 (I 65 48)) 65 35 (I 65 49)) 65 39 (I 65 50)) 65 40 (I 65 51)) 66 96 1 16) 97 i)) (cpq_0 (cpB (wr (wr (wr (wr (wr (wr I 65 11 (I 65 46)) 65 0 (I 65 47)) 65 1 (I 65 48)) 65 35 (I 65 49)) 65 39 (I 65 50)) 65 40 (I 65 51)) 66 96 1 16) 67 97 6 i)).trans (cpq_s (cpB (wr (wr (wr (wr (wr (wr I 65 11 (I 65 46)) 65 0 (I 65 47)) 65 1 (I 65 48)) 65 35 (I 65 49)) 65 39 (I 65 50)) 65 40 (I 65 51)) 66 96 1 16) (d := 67) (s := 97) (w := 6) (q := 0) rfl rfl (by decide)))).trans (cpq_s (cpB (wr (wr (wr (wr (wr (wr I 65 11 (I 65 46)) 65 0 (I 65 47)) 65 1 (I 65 48)) 65 35 (I 65 49)) 65 39 (I 65 50)) 65 40 (I 65 51)) 66 96 1 16) (d := 67) (s := 97) (w := 6) (q := 1) rfl rfl (by decide)))).trans (cpq_s (cpB (wr (wr (wr (wr (wr (wr I 65 11 (I 65 46)) 65 0 (I 65 47)) 65 1 (I 65 48)) 65 35 (I 65 49)) 65 39 (I 65 50)) 65 40 (I 65 51)) 66 96 1 16) (d := 67) (s := 97) (w := 6) (q := 2) rfl rfl (by decide)))).trans (cpq_s (cpB (wr (wr (wr (wr (wr (wr I 65 11 (I 65 46)) 65 0 (I 65 47)) 65 1 (I 65 48)) 65 35 (I 65 49)) 65 39 (I 65 50)) 65 40 (I 65 51)) 66 96 1 16) (d := 67) (s := 97) (w := 6) (q := 3) rfl rfl (by decide)))).trans (cpq_s (cpB (wr (wr (wr (wr (wr (wr I 65 11 (I 65 46)) 65 0 (I 65 47)) 65 1 (I 65 48)) 65 35 (I 65 49)) 65 39 (I 65 50)) 65 40 (I 65 51)) 66 96 1 16) (d := 67) (s := 97) (w := 6) (q := 4) rfl rfl (by decide)))).trans (cpq_s (cpB (wr (wr (wr (wr (wr (wr I 65 11 (I 65 46)) 65 0 (I 65 47)) 65 1 (I 65 48)) 65 35 (I 65 49)) 65 39 (I 65 50)) 65 40 (I 65 51)) 66 96 1 16) (d := 67) (s := 97) (w := 6) (q := 5) rfl rfl (by decide))).trans (cpq_e (cpB (wr (wr (wr (wr (wr (wr I 65 11 (I 65 46)) 65 0 (I 65 47)) 65 1 (I 65 48)) 65 35 (I 65 49)) 65 39 (I 65 50)) 65 40 (I 65 51)) 66 96 1 16) 67 97 6 i))) ?_
        exact ih
    · intro i hi ih
      refine v_iload_n dX9_undo_60 rfl 0 rfl ?_
      refine v_bipush (v := 16) dX9_undo_61 (by decide) ?_
      refine v_icmp_geN (a := i) (b := 16) (tgt := 84) dX9_undo_63 (by decide) rfl rfl (by omega) (by omega) (fun h => by exfalso; omega) (fun h12 => ?_)
      refine v_aload_n dX9_undo_66 rfl 1 rfl ?_
      refine v_get (v := .ref (g.1 + 66)) fa_X9_16 dX9_undo_67 rfl (by decide) (ltn rfl) rfl ?_
      refine v_iload_n dX9_undo_70 rfl 0 rfl ?_
      refine v_aload_n dX9_undo_71 rfl 1 rfl ?_
      refine v_get (v := .ref (g.1 + 96)) fa_X9_169 dX9_undo_72 rfl (by decide) (ltn rfl) rfl ?_
      refine v_iload_n dX9_undo_75 rfl 0 rfl ?_
      refine v_iaload (len := 16) (j := i) dX9_undo_76 rfl (ltn rfl) rfl (by decide) rfl (by omega) ?_
      refine v_is (y := (wr (wr (wr (wr (wr (wr I 65 11 (I 65 46)) 65 0 (I 65 47)) 65 1 (I 65 48)) 65 35 (I 65 49)) 65 39 (I 65 50)) 65 40 (I 65 51)) 96 i) (by rfl) ?_
      refine v_iastore (len := 16) (j := i) dX9_undo_77 rfl (ltn rfl) rfl (by decide) rfl (by omega) ?_
      refine v_inc (v := nI (i + 1)) (lv2 := [(1, .int (nI (i + 1))), (0, .ref (g.1 + 65))]) dX9_undo_78 0 rfl (nx_inc rfl) (by decide) rfl ?_
      refine v_goto (tgt := 60) dX9_undo_81 (by decide) ?_
      refine v_I (I2 := (cpB (wr (wr (wr (wr (wr (wr I 65 11 (I 65 46)) 65 0 (I 65 47)) 65 1 (I 65 48)) 65 35 (I 65 49)) 65 39 (I 65 50)) 65 40 (I 65 51)) 66 96 1 (i + 1))) (by exact (((congrArg (fun z => wr z 66 i ((wr (wr (wr (wr (wr (wr I 65 11 (I 65 46)) 65 0 (I 65 47)) 65 1 (I 65 48)) 65 35 (I 65 49)) 65 39 (I 65 50)) 65 40 (I 65 51)) 96 i)) (cpq_0 (wr (wr (wr (wr (wr (wr I 65 11 (I 65 46)) 65 0 (I 65 47)) 65 1 (I 65 48)) 65 35 (I 65 49)) 65 39 (I 65 50)) 65 40 (I 65 51)) 66 96 1 i)).trans (cpq_s (wr (wr (wr (wr (wr (wr I 65 11 (I 65 46)) 65 0 (I 65 47)) 65 1 (I 65 48)) 65 35 (I 65 49)) 65 39 (I 65 50)) 65 40 (I 65 51)) (d := 66) (s := 96) (w := 1) (q := 0) rfl rfl (by decide))).trans (cpq_e (wr (wr (wr (wr (wr (wr I 65 11 (I 65 46)) 65 0 (I 65 47)) 65 1 (I 65 48)) 65 35 (I 65 49)) 65 39 (I 65 50)) 65 40 (I 65 51)) 66 96 1 i))) ?_
      exact ih
  · refine v_bipush (v := (-3)) dX9_undo_7 (by decide) ?_
    exact v_iret hr dX9_undo_9 (psi (by rw [ifc_t h2]) (by rw [ifc_t h2]))
