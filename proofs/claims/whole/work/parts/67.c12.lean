abbrev ChOK (ch : Nat → Int32) : Prop := ∀ p, p < 6 → inr (ch p) 65536
/-- tests look at facts 0 .. 5 alone -/
def okSt (st : Nat → Int32) (len : Nat) : Prop := ∀ i, i < len → ¬ st i &&& 15 = 0 → ¬ st i &&& 15 = 1 → ¬ st i &&& 15 = 2 → ¬ st i &&& 15 = 3 → lo7 (opO (st i)) ≤ 5
theorem ols_fx {st fx hx : Nat → Int32} {len : Nat} (ok : okSt st len) (h : ∀ j, j ≤ 5 → fx j = hx j) : ∀ i, i ≤ len → olsS st fx i = olsS st hx i
  | 0, _ => rfl
  | i + 1, hi => by
    rw [olsS, olsS, ols_fx ok h i (by omega)]
    generalize olsS st hx i = z
    unfold stpO
    by_cases h0 : st i &&& 15 = 0
    · rw [ifc_t h0, ifc_t h0]
    · rw [ifc_f h0, ifc_f h0]
      by_cases h1 : st i &&& 15 = 1
      · rw [ifc_t h1, ifc_t h1]
      · rw [ifc_f h1, ifc_f h1]
        by_cases h2 : st i &&& 15 = 2
        · rw [ifc_t h2, ifc_t h2]
        · rw [ifc_f h2, ifc_f h2]
          by_cases h3 : st i &&& 15 = 3
          · rw [ifc_t h3, ifc_t h3]
          · rw [ifc_f h3, ifc_f h3, h _ (ok i (by omega) h0 h1 h2 h3)]
noncomputable def nsC (st : Nat → Int32) (len : Nat) (fx : Int32 → Int32) (ga : Int32) : Int32 := ga + (olsS st (fun j => fx (nI j)) len).1
/-- what a nation adds to a gate -/
noncomputable def nsW (I : Ty) (nl : Nat → Nat) (x : Nat) : (Int32 → Int32) → Int32 → Int32 := nsC (I (scell x)) (sln nl x)
def ftU (f : Nat → Int32) (a b c d e h : Int32) : Nat → Int32 := va_up (va_up (va_up (va_up (va_up (va_up f 0 a) 1 b) 2 c) 3 d) 4 e) 5 h
theorem ftU_fct {f : Nat → Int32} {p c : Nat} {k v ga h10 : Int32} : ∀ j, j ≤ 5 → ftU f (nI p) k v (nI c) ga h10 j = fctV p c k v ga h10 (nI j) := by
  intro j hj
  rcases (show j = 0 ∨ j = 1 ∨ j = 2 ∨ j = 3 ∨ j = 4 ∨ j = 5 by omega) with e | e | e | e | e | e <;> subst e <;> unfold fctV
  · exact (ifc_t rfl).symm
  · rw [ifc_f (by decide), ifc_t (by decide)]; rfl
  · rw [ifc_f (by decide), ifc_f (by decide), ifc_t (by decide)]; rfl
  · rw [ifc_f (by decide), ifc_f (by decide), ifc_f (by decide), ifc_t (by decide)]; rfl
  · rw [ifc_f (by decide), ifc_f (by decide), ifc_f (by decide), ifc_f (by decide), ifc_t (by decide)]; rfl
  · rw [ifc_f (by decide), ifc_f (by decide), ifc_f (by decide), ifc_f (by decide), ifc_f (by decide)]; rfl
theorem nsW_e {I : Ty} {nl : Nat → Nat} {x : Nat} {f : Nat → Int32} {p c : Nat} {k v ga h10 : Int32} (ok : okSt (I (scell x)) (sln nl x)) : ga + (olsS (I (scell x)) (ftU f (nI p) k v (nI c) ga h10) (sln nl x)).1 = nsW I nl x (fctV p c k v ga h10) ga := by
  unfold nsW nsC
  rw [ols_fx ok (fun j hj => ftU_fct j hj) _ (Nat.le_refl _)]
theorem nsW_up {I : Ty} {nl : Nat → Nat} {x k : Nat} {f : Nat → Int32} (h1 : k ≠ 22) (h2 : k < 116) : nsW (va_up I k f) nl x = nsW I nl x := by
  unfold nsW; rw [up_off _ _ (scell_ne x h1 h2)]
theorem wr6 (I : Ty) (a : Nat) (v0 v1 v2 v3 v4 v5 : Int32) : wr (wr (wr (wr (wr (wr I a 0 v0) a 1 v1) a 2 v2) a 3 v3) a 4 v4) a 5 v5 = va_up I a (ftU (I a) v0 v1 v2 v3 v4 v5) := by
  simp only [wr, up_up2, up_at]; rfl

set_option maxRecDepth 100000 in
set_option maxHeartbeats 400000 in
theorem c_fade_23 {g : Gl} {I : Ty} {L : TL} {na nt ni m : Nat} {nl : Nat → Nat}  (pp : Nat) (hpp : pp ≤ 6) (hpe : I 23 1 = nI pp) : Ct g yX2_fadeCharts cX2_fadeCharts 2 none 0 0 0 [.ref (g.1 + 23)] I L (RT na nt ni) (NT nl) (NB + m) (Ps none (va_up I 29 (cpn (fun j => I 29 j &&& (I 29 j - 1)) (I 29) pp)) L (RT na nt ni) (NT nl) (NB + m)) := by
  refine ct_of (by decide +kernel) (Nat.le_of_ble_eq_true rfl) (fun F hnm hr => ?_)
  clear hnm
  show V g F cX2_fadeCharts RX2 2 0 0 [(0, .ref (g.1 + 23))] [] I L (RT na nt ni) (NT nl) (NB + m) 0 0
  refine v_iconst (v := 0) dX2_fadeCharts_0 (by decide) ?_
  refine v_istore_n (lv2 := [(1, .int 0), (0, .ref (g.1 + 23))]) dX2_fadeCharts_1 rfl (by decide) rfl ?_
  refine v_lv (lv2 := [(1, .int (nI 0)), (0, .ref (g.1 + 23))]) (by rfl) ?_
  refine v_I (I2 := (va_up I 29 (cpn (fun j => I 29 j &&& (I 29 j - 1)) (I 29) 0))) (by rw [cpn_0, up_self]) ?_
  refine dloop (P := fun i => V g F cX2_fadeCharts RX2 2 0 2 [(1, .int (nI i)), (0, .ref (g.1 + 23))] [] (va_up I 29 (cpn (fun j => I 29 j &&& (I 29 j - 1)) (I 29) i)) L (RT na nt ni) (NT nl) (NB + m) 0 0) pp ?_ ?_ 0 (Nat.zero_le _)
  · refine v_iload_n dX2_fadeCharts_2 rfl 0 rfl ?_
    refine v_aload_n dX2_fadeCharts_3 rfl 1 rfl ?_
    refine v_get (v := .int ((va_up I 29 (cpn (fun j => I 29 j &&& (I 29 j - 1)) (I 29) pp)) 23 1)) fa_X2_53 dX2_fadeCharts_4 rfl (by decide) (ltn rfl) rfl ?_
    refine v_is (y := nI pp) (by exact hpe) ?_
    refine v_icmp_geN (a := pp) (b := pp) (tgt := 33) dX2_fadeCharts_7 (by decide) rfl rfl (by omega) (by omega) (fun h1 => ?_) (fun h => by exfalso; omega)
    exact v_vret hr dX2_fadeCharts_33 (⟨rfl, rfl, rfl, rfl, rfl, rfl⟩)
  · intro i hi ih
    refine v_iload_n dX2_fadeCharts_2 rfl 0 rfl ?_
    refine v_aload_n dX2_fadeCharts_3 rfl 1 rfl ?_
    refine v_get (v := .int ((va_up I 29 (cpn (fun j => I 29 j &&& (I 29 j - 1)) (I 29) i)) 23 1)) fa_X2_53 dX2_fadeCharts_4 rfl (by decide) (ltn rfl) rfl ?_
    refine v_is (y := nI pp) (by exact hpe) ?_
    refine v_icmp_geN (a := i) (b := pp) (tgt := 33) dX2_fadeCharts_7 (by decide) rfl rfl (by omega) (by omega) (fun h => by exfalso; omega) (fun h2 => ?_)
    refine v_aload_n dX2_fadeCharts_10 rfl 1 rfl ?_
    refine v_get (v := .ref (g.1 + 29)) fa_X2_27 dX2_fadeCharts_11 rfl (by decide) (ltn rfl) rfl ?_
    refine v_iload_n dX2_fadeCharts_14 rfl 0 rfl ?_
    refine v_dup2 dX2_fadeCharts_15 rfl rfl ?_
    refine v_iaload (len := 6) (j := i) dX2_fadeCharts_16 rfl (ltn rfl) rfl (by decide) rfl (by omega) ?_
    refine v_is (y := I 29 i) (by rw [up_at]; exact cpn_me _ _ _) ?_
    refine v_aload_n dX2_fadeCharts_17 rfl 1 rfl ?_
    refine v_get (v := .ref (g.1 + 29)) fa_X2_27 dX2_fadeCharts_18 rfl (by decide) (ltn rfl) rfl ?_
    refine v_iload_n dX2_fadeCharts_21 rfl 0 rfl ?_
    refine v_iaload (len := 6) (j := i) dX2_fadeCharts_22 rfl (ltn rfl) rfl (by decide) rfl (by omega) ?_
    refine v_is (y := I 29 i) (by rw [up_at]; exact cpn_me _ _ _) ?_
    refine v_iconst (v := 1) dX2_fadeCharts_23 (by decide) ?_
    refine v_isub dX2_fadeCharts_24 ?_
    refine v_iand dX2_fadeCharts_25 ?_
    refine v_iastore (len := 6) (j := i) dX2_fadeCharts_26 rfl (ltn rfl) rfl (by decide) rfl (by omega) ?_
    refine v_inc (v := nI (i + 1)) (lv2 := [(1, .int (nI (i + 1))), (0, .ref (g.1 + 23))]) dX2_fadeCharts_27 0 rfl (nx_inc rfl) (by decide) rfl ?_
    refine v_goto (tgt := 2) dX2_fadeCharts_30 (by decide) ?_
    refine v_I (I2 := (va_up I 29 (cpn (fun j => I 29 j &&& (I 29 j - 1)) (I 29) (i + 1)))) (by simp only [wr, up_up2, up_at]; congr 1; exact cpn_s (fun j => I 29 j &&& (I 29 j - 1)) (I 29) i) ?_
    exact ih
set_option maxRecDepth 100000 in
set_option maxHeartbeats 2000000 in
theorem c_wel_23 {g : Gl} {I : Ty} {L : TL} {na nt ni m : Nat} {nl : Nat → Nat} (pz : Nat) (cz : Nat) (pp : Nat) (hpp : pp ≤ 6) (hpe : I 23 1 = nI pp) (hpz : pz < 6) (hcz : cz < 16) (hxm : 2 * na ≤ m) (hsl : sln nl na ≤ 100) (hok : okSt (I (scell na)) (sln nl na)) (hch : ChOK (I 29)) : Ct g yX2_welcomeOf cX2_welcomeOf 5 (some .int) 1 0 0 [.ref (g.1 + 23), .int (nI pz), .int (nI cz)] I L (RT na nt ni) (NT nl) (NB + m) (fun v_ I_ L_ R_ N_ n_ => v_ = some (.int (Wl (I 24) (I 25) (I 26) (I 31) pp (nsW I nl na) (I 23 9) (I 27) (I 29) pz cz)) ∧ (∃ f, I_ = va_up I 32 f) ∧ L_ = L ∧ R_ = RT na nt ni ∧ N_ = NT nl ∧ n_ = NB + m) := by
  refine ct_of (by decide +kernel) (Nat.le_of_ble_eq_true rfl) (fun F hnm hr => ?_)
  clear hnm
  show V g F cX2_welcomeOf RX2 5 1 0 [(0, .ref (g.1 + 23)), (1, .int (nI pz)), (2, .int (nI cz))] [] I L (RT na nt ni) (NT nl) (NB + m) 0 0
  have hbc := bitc_le (I 29 pz) 16
  refine v_aload_n dX2_welcomeOf_0 rfl 0 rfl ?_
  refine v_get (v := .ref (g.1 + 26)) fa_X2_18 dX2_welcomeOf_1 rfl (by decide) (ltn rfl) rfl ?_
  refine v_iload_n dX2_welcomeOf_4 rfl 1 rfl ?_
  refine v_iaload (len := 6) (j := pz) dX2_welcomeOf_5 rfl (ltn rfl) rfl (by decide) rfl (by omega) ?_
  refine v_istore_n (lv2 := [(3, .int (I 26 pz)), (0, .ref (g.1 + 23)), (1, .int (nI pz)), (2, .int (nI cz))]) dX2_welcomeOf_6 rfl (by decide) rfl ?_
  refine v_aload_n dX2_welcomeOf_7 rfl 1 rfl ?_
  refine v_get (v := .ref (g.1 + 32)) fa_X2_42 dX2_welcomeOf_8 rfl (by decide) (ltn rfl) rfl ?_
  refine v_iconst (v := 0) dX2_welcomeOf_11 (by decide) ?_
  refine v_iload_n dX2_welcomeOf_12 rfl 2 rfl ?_
  refine v_iastore (len := 8) (j := 0) dX2_welcomeOf_13 rfl (ltn rfl) rfl (by decide) rfl (by omega) ?_
  refine v_aload_n dX2_welcomeOf_14 rfl 1 rfl ?_
  refine v_get (v := .ref (g.1 + 32)) fa_X2_42 dX2_welcomeOf_15 rfl (by decide) (ltn rfl) rfl ?_
  refine v_iconst (v := 1) dX2_welcomeOf_18 (by decide) ?_
  refine v_aload_n dX2_welcomeOf_19 rfl 1 rfl ?_
  refine v_get (v := .ref (g.1 + 25)) fa_X2_15 dX2_welcomeOf_20 rfl (by decide) (ltn rfl) rfl ?_
  refine v_iload_n dX2_welcomeOf_23 rfl 2 rfl ?_
  refine v_iaload (len := 6) (j := pz) dX2_welcomeOf_24 rfl (ltn rfl) rfl (by decide) rfl (by omega) ?_
  refine v_is (y := I 25 pz) (by first | rfl | simp [va_up]) ?_
  refine v_iastore (len := 8) (j := 1) dX2_welcomeOf_25 rfl (ltn rfl) rfl (by decide) rfl (by omega) ?_
  refine v_aload_n dX2_welcomeOf_26 rfl 1 rfl ?_
  refine v_get (v := .ref (g.1 + 32)) fa_X2_42 dX2_welcomeOf_27 rfl (by decide) (ltn rfl) rfl ?_
  refine v_iconst (v := 2) dX2_welcomeOf_30 (by decide) ?_
  refine v_iload_n dX2_welcomeOf_31 rfl 0 rfl ?_
  refine v_iastore (len := 8) (j := 2) dX2_welcomeOf_32 rfl (ltn rfl) rfl (by decide) rfl (by omega) ?_
  refine v_aload_n dX2_welcomeOf_33 rfl 1 rfl ?_
  refine v_get (v := .ref (g.1 + 32)) fa_X2_42 dX2_welcomeOf_34 rfl (by decide) (ltn rfl) rfl ?_
  refine v_iconst (v := 3) dX2_welcomeOf_37 (by decide) ?_
  refine v_iload_n dX2_welcomeOf_38 rfl 3 rfl ?_
  refine v_iastore (len := 8) (j := 3) dX2_welcomeOf_39 rfl (ltn rfl) rfl (by decide) rfl (by omega) ?_
  refine v_aload_n dX2_welcomeOf_40 rfl 1 rfl ?_
  refine v_get (v := .ref (g.1 + 32)) fa_X2_42 dX2_welcomeOf_41 rfl (by decide) (ltn rfl) rfl ?_
  refine v_iconst (v := 4) dX2_welcomeOf_44 (by decide) ?_
  refine v_aload_n dX2_welcomeOf_45 rfl 1 rfl ?_
  refine v_get (v := .ref (g.1 + 24)) fa_X2_9 dX2_welcomeOf_46 rfl (by decide) (ltn rfl) rfl ?_
  refine v_iload_n dX2_welcomeOf_49 rfl 3 rfl ?_
  refine v_iaload (len := 16) (j := cz) dX2_welcomeOf_50 rfl (ltn rfl) rfl (by decide) rfl (by omega) ?_
  refine v_is (y := I 24 cz) (by first | rfl | simp [va_up]) ?_
  refine v_iastore (len := 8) (j := 4) dX2_welcomeOf_51 rfl (ltn rfl) rfl (by decide) rfl (by omega) ?_
  refine v_aload_n dX2_welcomeOf_52 rfl 1 rfl ?_
  refine v_get (v := .ref (g.1 + 32)) fa_X2_42 dX2_welcomeOf_53 rfl (by decide) (ltn rfl) rfl ?_
  refine v_iconst (v := 5) dX2_welcomeOf_56 (by decide) ?_
  refine v_aload_n dX2_welcomeOf_57 rfl 1 rfl ?_
  refine v_get (v := .int (I 23 9)) fa_X2_62 dX2_welcomeOf_58 rfl (by decide) (ltn rfl) rfl ?_
  refine v_bipush (v := 10) dX2_welcomeOf_61 (by decide) ?_
  refine v_irem dX2_welcomeOf_63 (by decide) ?_
  refine v_iastore (len := 8) (j := 5) dX2_welcomeOf_64 rfl (ltn rfl) rfl (by decide) rfl (by omega) ?_
  refine v_I (I2 := (va_up I 32 (ftU (I 32) (nI pz) (I 25 pz) (I 26 pz) (nI cz) (I 24 cz) (I 23 9 - I 23 9 / 10 * 10)))) (wr6 _ _ _ _ _ _ _ _) ?_
  refine v_aload_n dX2_welcomeOf_65 rfl 1 rfl ?_
  refine v_get (v := .ref (g.1 + 24)) fa_X2_9 dX2_welcomeOf_66 rfl (by decide) (ltn rfl) rfl ?_
  refine v_iload_n dX2_welcomeOf_69 rfl 3 rfl ?_
  refine v_iaload (len := 16) (j := cz) dX2_welcomeOf_70 rfl (ltn rfl) rfl (by decide) rfl (by omega) ?_
  refine v_is (y := I 24 cz) (by rfl) ?_
  refine v_aload_n dX2_welcomeOf_71 rfl 1 rfl ?_
  refine v_get (v := .ref (g.1 + (ncell na))) fa_X2_45 dX2_welcomeOf_72 rfl (by decide) (ltn rfl) rfl ?_
  refine v_aload_n dX2_welcomeOf_75 rfl 1 rfl ?_
  refine v_get (v := .ref (g.1 + 32)) fa_X2_42 dX2_welcomeOf_76 rfl (by decide) (ltn rfl) rfl ?_
  refine v_callVi (As := [.ref (g.1 + 32)]) (rest := [.int (I 24 cz)]) lk_X2_65 (c_ols_23 (I := (va_up I 32 (ftU (I 32) (nI pz) (I 25 pz) (I 26 pz) (nI cz) (I 24 cz) (I 23 9 - I 23 9 / 10 * 10)))) na hxm hsl) dX2_welcomeOf_79 (kd_nc na) (lt_nc hxm) rfl rfl (Nat.le_of_ble_eq_true rfl) (by decide) ?_
  refine v_is (y := (olsS (I (scell na)) (ftU (I 32) (nI pz) (I 25 pz) (I 26 pz) (nI cz) (I 24 cz) (I 23 9 - I 23 9 / 10 * 10)) (sln nl na)).1) (by rw [up_at, up_off _ _ (scell_ne na (by decide) (by decide))]) ?_
  refine v_iadd dX2_welcomeOf_82 ?_
  refine v_is (y := (nsW I nl na (fctV pz cz (I 25 pz) (I 26 pz) (I 24 cz) (I 23 9 - I 23 9 / 10 * 10)) (I 24 cz))) (nsW_e hok) ?_
  refine v_istore (lv2 := [(4, .int (nsW I nl na (fctV pz cz (I 25 pz) (I 26 pz) (I 24 cz) (I 23 9 - I 23 9 / 10 * 10)) (I 24 cz))), (3, .int (I 26 pz)), (0, .ref (g.1 + 23)), (1, .int (nI pz)), (2, .int (nI cz))]) dX2_welcomeOf_83 (by decide) rfl ?_
  refine v_aload_n dX2_welcomeOf_85 rfl 2 rfl ?_
  refine v_get (v := .ref (g.1 + 25)) fa_X2_15 dX2_welcomeOf_86 rfl (by decide) (ltn rfl) rfl ?_
  refine v_iload_n dX2_welcomeOf_89 rfl 3 rfl ?_
  refine v_iaload (len := 6) (j := pz) dX2_welcomeOf_90 rfl (ltn rfl) rfl (by decide) rfl (by omega) ?_
  refine v_is (y := I 25 pz) (by rfl) ?_
  by_cases k1_1 : I 25 pz = 1
  · refine v_is k1_1 ?_
    refine v_tabIn (off := 37) (tgt := 128) dX2_welcomeOf_91 (by decide) (by decide) (by decide) (by decide) ?_
    refine v_iload dX2_welcomeOf_128 0 rfl ?_
    refine v_iload_n dX2_welcomeOf_130 rfl 1 rfl ?_
    refine v_iadd dX2_welcomeOf_131 ?_
    exact v_iret hr dX2_welcomeOf_132 (⟨congrArg (fun z => some (Value.int z)) (by unfold Wl welV; rw [ifc_t k1_1] <;> first | rfl | (rw [Int32.sub_zero])), ⟨_, rfl⟩, rfl, rfl, rfl, rfl⟩)
  by_cases k1_2 : I 25 pz = 2
  · refine v_is k1_2 ?_
    refine v_tabIn (off := 42) (tgt := 133) dX2_welcomeOf_91 (by decide) (by decide) (by decide) (by decide) ?_
    refine v_iload dX2_welcomeOf_133 0 rfl ?_
    refine v_iconst (v := 2) dX2_welcomeOf_135 (by decide) ?_
    refine v_idiv dX2_welcomeOf_136 (by decide) ?_
    refine v_iconst (v := 1) dX2_welcomeOf_137 (by decide) ?_
    refine v_iadd dX2_welcomeOf_138 ?_
    exact v_iret hr dX2_welcomeOf_139 (⟨congrArg (fun z => some (Value.int z)) (by unfold Wl welV; rw [ifc_f k1_1, ifc_t k1_2] <;> first | rfl | (rw [Int32.sub_zero])), ⟨_, rfl⟩, rfl, rfl, rfl, rfl⟩)
  by_cases k1_3 : I 25 pz = 3
  · refine v_is k1_3 ?_
    refine v_tabIn (off := 49) (tgt := 140) dX2_welcomeOf_91 (by decide) (by decide) (by decide) (by decide) ?_
    refine v_iload_n dX2_welcomeOf_140 rfl 4 rfl ?_
    refine v_iload_n dX2_welcomeOf_141 rfl 1 rfl ?_
    refine v_icmp_ge (tgt := 150) dX2_welcomeOf_142 (by decide) (fun h2 => ?_) (fun h2 => ?_)
    · -- nI cz ge I 26 pz
      have h2n := Int32.not_lt.mpr h2
      refine v_iload dX2_welcomeOf_150 0 rfl ?_
      exact v_iret hr dX2_welcomeOf_152 (⟨congrArg (fun z => some (Value.int z)) (by unfold Wl welV; rw [ifc_f k1_1, ifc_f k1_2, ifc_t k1_3, ifc_f h2n] <;> first | rfl | (rw [Int32.sub_zero])), ⟨_, rfl⟩, rfl, rfl, rfl, rfl⟩)
    · -- nI cz lt I 26 pz
      have h2n := Int32.not_le.mp h2
      refine v_bipush (v := 9) dX2_welcomeOf_145 (by decide) ?_
      refine v_goto (tgt := 152) dX2_welcomeOf_147 (by decide) ?_
      exact v_iret hr dX2_welcomeOf_152 (⟨congrArg (fun z => some (Value.int z)) (by unfold Wl welV; rw [ifc_f k1_1, ifc_f k1_2, ifc_t k1_3, ifc_t h2n] <;> first | rfl | (rw [Int32.sub_zero])), ⟨_, rfl⟩, rfl, rfl, rfl, rfl⟩)
  by_cases k1_4 : I 25 pz = 4
  · refine v_is k1_4 ?_
    refine v_tabIn (off := 62) (tgt := 153) dX2_welcomeOf_91 (by decide) (by decide) (by decide) (by decide) ?_
    refine v_iload dX2_welcomeOf_153 0 rfl ?_
    refine v_iload_n dX2_welcomeOf_155 rfl 1 rfl ?_
    refine v_iadd dX2_welcomeOf_156 ?_
    refine v_aload_n dX2_welcomeOf_157 rfl 2 rfl ?_
    refine v_iload_n dX2_welcomeOf_158 rfl 3 rfl ?_
    refine v_iload_n dX2_welcomeOf_159 rfl 4 rfl ?_
    refine v_callVi (As := [.int (nI pz), .int (nI cz)]) (rest := [.int ((nsW I nl na (fctV pz cz (I 25 pz) (I 26 pz) (I 24 cz) (I 23 9 - I 23 9 / 10 * 10)) (I 24 cz)) + I 26 pz)]) lk_X2_69 (c_isOther_23 (I := (va_up I 32 (ftU (I 32) (nI pz) (I 25 pz) (I 26 pz) (nI cz) (I 24 cz) (I 23 9 - I 23 9 / 10 * 10)))) pz cz pp hpp hpe hpz hcz) dX2_welcomeOf_160 rfl (ltn rfl) rfl rfl (Nat.le_of_ble_eq_true rfl) (by decide) ?_
    refine v_is (y := (bq (∃ o, o < pp ∧ o ≠ pz ∧ I 27 o = nI cz))) rfl ?_
    refine v_ifb_eq (tgt := 171) dX2_welcomeOf_163 (by decide) (fun h3 => ?_) (fun h3 => ?_)
    · -- not (∃ o, o < pp ∧ o ≠ pz ∧ I 27 o = nI cz)
      refine v_iconst (v := 0) dX2_welcomeOf_171 (by decide) ?_
      refine v_isub dX2_welcomeOf_172 ?_
      exact v_iret hr dX2_welcomeOf_173 (⟨congrArg (fun z => some (Value.int z)) (by unfold Wl welV; rw [ifc_f k1_1, ifc_f k1_2, ifc_f k1_3, ifc_t k1_4, ifc_f h3] <;> first | rfl | (rw [Int32.sub_zero])), ⟨_, rfl⟩, rfl, rfl, rfl, rfl⟩)
    · -- (∃ o, o < pp ∧ o ≠ pz ∧ I 27 o = nI cz)
      refine v_bipush (v := 8) dX2_welcomeOf_166 (by decide) ?_
      refine v_goto (tgt := 172) dX2_welcomeOf_168 (by decide) ?_
      refine v_isub dX2_welcomeOf_172 ?_
      exact v_iret hr dX2_welcomeOf_173 (⟨congrArg (fun z => some (Value.int z)) (by unfold Wl welV; rw [ifc_f k1_1, ifc_f k1_2, ifc_f k1_3, ifc_t k1_4, ifc_t h3] <;> first | rfl | (rw [Int32.sub_zero])), ⟨_, rfl⟩, rfl, rfl, rfl, rfl⟩)
  by_cases k1_5 : I 25 pz = 5
  · refine v_is k1_5 ?_
    refine v_tabIn (off := 83) (tgt := 174) dX2_welcomeOf_91 (by decide) (by decide) (by decide) (by decide) ?_
    refine v_iload dX2_welcomeOf_174 0 rfl ?_
    refine v_iconst (v := 2) dX2_welcomeOf_176 (by decide) ?_
    refine v_idiv dX2_welcomeOf_177 (by decide) ?_
    refine v_iconst (v := 1) dX2_welcomeOf_178 (by decide) ?_
    refine v_iadd dX2_welcomeOf_179 ?_
    refine v_aload_n dX2_welcomeOf_180 rfl 2 rfl ?_
    refine v_get (v := .ref (g.1 + 29)) fa_X2_27 dX2_welcomeOf_181 rfl (by decide) (ltn rfl) rfl ?_
    refine v_iload_n dX2_welcomeOf_184 rfl 3 rfl ?_
    refine v_iaload (len := 6) (j := pz) dX2_welcomeOf_185 rfl (ltn rfl) rfl (by decide) rfl (by omega) ?_
    refine v_is (y := I 29 pz) (by rfl) ?_
    refine v_callSi (As := [.int (I 29 pz)]) (rest := [.int (((nsW I nl na (fctV pz cz (I 25 pz) (I 26 pz) (I 24 cz) (I 23 9 - I 23 9 / 10 * 10)) (I 24 cz)) / 2) + 1)]) lk_X2_73 (c_bitCount (xz := (I 29 pz)) (hch _ (by omega))) dX2_welcomeOf_186 rfl rfl (Nat.le_of_ble_eq_true rfl) (by decide) ?_
    refine v_iconst (v := 2) dX2_welcomeOf_189 (by decide) ?_
    refine v_idiv dX2_welcomeOf_190 (by decide) ?_
    refine v_is (nx_div rfl (d := 2) (by omega) (by decide) (by decide)) ?_
    refine v_iadd dX2_welcomeOf_191 ?_
    exact v_iret hr dX2_welcomeOf_192 (⟨congrArg (fun z => some (Value.int z)) (by unfold Wl welV; rw [ifc_f k1_1, ifc_f k1_2, ifc_f k1_3, ifc_f k1_4, ifc_t k1_5] <;> first | rfl | (rw [Int32.sub_zero])), ⟨_, rfl⟩, rfl, rfl, rfl, rfl⟩)
  by_cases k1_6 : I 25 pz = 6
  · refine v_is k1_6 ?_
    refine v_tabIn (off := 102) (tgt := 193) dX2_welcomeOf_91 (by decide) (by decide) (by decide) (by decide) ?_
    refine v_iload_n dX2_welcomeOf_193 rfl 4 rfl ?_
    refine v_iload_n dX2_welcomeOf_194 rfl 1 rfl ?_
    refine v_icmp_ge (tgt := 203) dX2_welcomeOf_195 (by decide) (fun h4 => ?_) (fun h4 => ?_)
    · -- nI cz ge I 26 pz
      have h4n := Int32.not_lt.mpr h4
      refine v_iload dX2_welcomeOf_203 0 rfl ?_
      refine v_aload_n dX2_welcomeOf_205 rfl 2 rfl ?_
      refine v_get (v := .ref (g.1 + 31)) fa_X2_33 dX2_welcomeOf_206 rfl (by decide) (ltn rfl) rfl ?_
      refine v_iconst (v := 4) dX2_welcomeOf_209 (by decide) ?_
      refine v_iload_n dX2_welcomeOf_210 rfl 3 rfl ?_
      refine v_imul dX2_welcomeOf_211 ?_
      refine v_is (nx_mul rfl rfl) ?_
      refine v_iload_n dX2_welcomeOf_212 rfl 4 rfl ?_
      refine v_iconst (v := 4) dX2_welcomeOf_213 (by decide) ?_
      refine v_irem dX2_welcomeOf_214 (by decide) ?_
      refine v_is (nx_rem rfl (d := 4) (by omega) (by decide) (by decide)) ?_
      refine v_iadd dX2_welcomeOf_215 ?_
      refine v_is (nx_add rfl rfl) ?_
      refine v_iaload (len := 24) (j := ((4 * pz) + (cz % 4))) dX2_welcomeOf_216 rfl (ltn rfl) rfl (by decide) rfl (by omega) ?_
      refine v_is (y := I 31 ((4 * pz) + (cz % 4))) (by rfl) ?_
      refine v_iadd dX2_welcomeOf_217 ?_
      refine v_iconst (v := 4) dX2_welcomeOf_218 (by decide) ?_
      refine v_isub dX2_welcomeOf_219 ?_
      exact v_iret hr dX2_welcomeOf_220 (⟨congrArg (fun z => some (Value.int z)) (by unfold Wl welV; rw [ifc_f k1_1, ifc_f k1_2, ifc_f k1_3, ifc_f k1_4, ifc_f k1_5, ifc_t k1_6, ifc_f h4n] <;> first | rfl | (rw [Int32.sub_zero])), ⟨_, rfl⟩, rfl, rfl, rfl, rfl⟩)
    · -- nI cz lt I 26 pz
      have h4n := Int32.not_le.mp h4
      refine v_bipush (v := 9) dX2_welcomeOf_198 (by decide) ?_
      refine v_goto (tgt := 205) dX2_welcomeOf_200 (by decide) ?_
      refine v_aload_n dX2_welcomeOf_205 rfl 2 rfl ?_
      refine v_get (v := .ref (g.1 + 31)) fa_X2_33 dX2_welcomeOf_206 rfl (by decide) (ltn rfl) rfl ?_
      refine v_iconst (v := 4) dX2_welcomeOf_209 (by decide) ?_
      refine v_iload_n dX2_welcomeOf_210 rfl 3 rfl ?_
      refine v_imul dX2_welcomeOf_211 ?_
      refine v_is (nx_mul rfl rfl) ?_
      refine v_iload_n dX2_welcomeOf_212 rfl 4 rfl ?_
      refine v_iconst (v := 4) dX2_welcomeOf_213 (by decide) ?_
      refine v_irem dX2_welcomeOf_214 (by decide) ?_
      refine v_is (nx_rem rfl (d := 4) (by omega) (by decide) (by decide)) ?_
      refine v_iadd dX2_welcomeOf_215 ?_
      refine v_is (nx_add rfl rfl) ?_
      refine v_iaload (len := 24) (j := ((4 * pz) + (cz % 4))) dX2_welcomeOf_216 rfl (ltn rfl) rfl (by decide) rfl (by omega) ?_
      refine v_is (y := I 31 ((4 * pz) + (cz % 4))) (by rfl) ?_
      refine v_iadd dX2_welcomeOf_217 ?_
      refine v_iconst (v := 4) dX2_welcomeOf_218 (by decide) ?_
      refine v_isub dX2_welcomeOf_219 ?_
      exact v_iret hr dX2_welcomeOf_220 (⟨congrArg (fun z => some (Value.int z)) (by unfold Wl welV; rw [ifc_f k1_1, ifc_f k1_2, ifc_f k1_3, ifc_f k1_4, ifc_f k1_5, ifc_t k1_6, ifc_t h4n] <;> first | rfl | (rw [Int32.sub_zero])), ⟨_, rfl⟩, rfl, rfl, rfl, rfl⟩)
  have t5 : (I 25 pz).toInt < 1 ∨ 6 < (I 25 pz).toInt := by
    rcases sw_out (I 25 pz) (1) (6) with h | h | ⟨ha, hb⟩
    · exact Or.inl h
    · exact Or.inr h
    · exfalso
      have hz : ∀ z : Int, 1 ≤ z → z ≤ 6 → z = 1 ∨ z = 2 ∨ z = 3 ∨ z = 4 ∨ z = 5 ∨ z = 6 := by omega
      rcases hz _ ha hb with e | e | e | e | e | e
      · exact absurd (sw_eq (k := 1) e (by decide)) k1_1
      · exact absurd (sw_eq (k := 2) e (by decide)) k1_2
      · exact absurd (sw_eq (k := 3) e (by decide)) k1_3
      · exact absurd (sw_eq (k := 4) e (by decide)) k1_4
      · exact absurd (sw_eq (k := 5) e (by decide)) k1_5
      · exact absurd (sw_eq (k := 6) e (by decide)) k1_6
  refine v_tabOut (tgt := 221) dX2_welcomeOf_91 t5 (by decide) ?_
  refine v_iload dX2_welcomeOf_221 0 rfl ?_
  exact v_iret hr dX2_welcomeOf_223 (⟨congrArg (fun z => some (Value.int z)) (by unfold Wl welV; rw [ifc_f k1_1, ifc_f k1_2, ifc_f k1_3, ifc_f k1_4, ifc_f k1_5, ifc_f k1_6] <;> first | rfl | (rw [Int32.sub_zero])), ⟨_, rfl⟩, rfl, rfl, rfl, rfl⟩)
set_option maxRecDepth 100000 in
set_option maxHeartbeats 400000 in
theorem c_fade_33 {g : Gl} {I : Ty} {L : TL} {na nt ni m : Nat} {nl : Nat → Nat}  (pp : Nat) (hpp : pp ≤ 6) (hpe : I 33 1 = nI pp) : Ct g yX2_fadeCharts cX2_fadeCharts 2 none 0 0 0 [.ref (g.1 + 33)] I L (RT na nt ni) (NT nl) (NB + m) (Ps none (va_up I 39 (cpn (fun j => I 39 j &&& (I 39 j - 1)) (I 39) pp)) L (RT na nt ni) (NT nl) (NB + m)) := by
  refine ct_of (by decide +kernel) (Nat.le_of_ble_eq_true rfl) (fun F hnm hr => ?_)
  clear hnm
  show V g F cX2_fadeCharts RX2 2 0 0 [(0, .ref (g.1 + 33))] [] I L (RT na nt ni) (NT nl) (NB + m) 0 0
  refine v_iconst (v := 0) dX2_fadeCharts_0 (by decide) ?_
  refine v_istore_n (lv2 := [(1, .int 0), (0, .ref (g.1 + 33))]) dX2_fadeCharts_1 rfl (by decide) rfl ?_
  refine v_lv (lv2 := [(1, .int (nI 0)), (0, .ref (g.1 + 33))]) (by rfl) ?_
  refine v_I (I2 := (va_up I 39 (cpn (fun j => I 39 j &&& (I 39 j - 1)) (I 39) 0))) (by rw [cpn_0, up_self]) ?_
  refine dloop (P := fun i => V g F cX2_fadeCharts RX2 2 0 2 [(1, .int (nI i)), (0, .ref (g.1 + 33))] [] (va_up I 39 (cpn (fun j => I 39 j &&& (I 39 j - 1)) (I 39) i)) L (RT na nt ni) (NT nl) (NB + m) 0 0) pp ?_ ?_ 0 (Nat.zero_le _)
  · refine v_iload_n dX2_fadeCharts_2 rfl 0 rfl ?_
    refine v_aload_n dX2_fadeCharts_3 rfl 1 rfl ?_
    refine v_get (v := .int ((va_up I 39 (cpn (fun j => I 39 j &&& (I 39 j - 1)) (I 39) pp)) 33 1)) fa_X2_53 dX2_fadeCharts_4 rfl (by decide) (ltn rfl) rfl ?_
    refine v_is (y := nI pp) (by exact hpe) ?_
    refine v_icmp_geN (a := pp) (b := pp) (tgt := 33) dX2_fadeCharts_7 (by decide) rfl rfl (by omega) (by omega) (fun h1 => ?_) (fun h => by exfalso; omega)
    exact v_vret hr dX2_fadeCharts_33 (⟨rfl, rfl, rfl, rfl, rfl, rfl⟩)
  · intro i hi ih
    refine v_iload_n dX2_fadeCharts_2 rfl 0 rfl ?_
    refine v_aload_n dX2_fadeCharts_3 rfl 1 rfl ?_
    refine v_get (v := .int ((va_up I 39 (cpn (fun j => I 39 j &&& (I 39 j - 1)) (I 39) i)) 33 1)) fa_X2_53 dX2_fadeCharts_4 rfl (by decide) (ltn rfl) rfl ?_
    refine v_is (y := nI pp) (by exact hpe) ?_
    refine v_icmp_geN (a := i) (b := pp) (tgt := 33) dX2_fadeCharts_7 (by decide) rfl rfl (by omega) (by omega) (fun h => by exfalso; omega) (fun h2 => ?_)
    refine v_aload_n dX2_fadeCharts_10 rfl 1 rfl ?_
    refine v_get (v := .ref (g.1 + 39)) fa_X2_27 dX2_fadeCharts_11 rfl (by decide) (ltn rfl) rfl ?_
    refine v_iload_n dX2_fadeCharts_14 rfl 0 rfl ?_
    refine v_dup2 dX2_fadeCharts_15 rfl rfl ?_
    refine v_iaload (len := 6) (j := i) dX2_fadeCharts_16 rfl (ltn rfl) rfl (by decide) rfl (by omega) ?_
    refine v_is (y := I 39 i) (by rw [up_at]; exact cpn_me _ _ _) ?_
    refine v_aload_n dX2_fadeCharts_17 rfl 1 rfl ?_
    refine v_get (v := .ref (g.1 + 39)) fa_X2_27 dX2_fadeCharts_18 rfl (by decide) (ltn rfl) rfl ?_
    refine v_iload_n dX2_fadeCharts_21 rfl 0 rfl ?_
    refine v_iaload (len := 6) (j := i) dX2_fadeCharts_22 rfl (ltn rfl) rfl (by decide) rfl (by omega) ?_
    refine v_is (y := I 39 i) (by rw [up_at]; exact cpn_me _ _ _) ?_
    refine v_iconst (v := 1) dX2_fadeCharts_23 (by decide) ?_
    refine v_isub dX2_fadeCharts_24 ?_
    refine v_iand dX2_fadeCharts_25 ?_
    refine v_iastore (len := 6) (j := i) dX2_fadeCharts_26 rfl (ltn rfl) rfl (by decide) rfl (by omega) ?_
    refine v_inc (v := nI (i + 1)) (lv2 := [(1, .int (nI (i + 1))), (0, .ref (g.1 + 33))]) dX2_fadeCharts_27 0 rfl (nx_inc rfl) (by decide) rfl ?_
    refine v_goto (tgt := 2) dX2_fadeCharts_30 (by decide) ?_
    refine v_I (I2 := (va_up I 39 (cpn (fun j => I 39 j &&& (I 39 j - 1)) (I 39) (i + 1)))) (by simp only [wr, up_up2, up_at]; congr 1; exact cpn_s (fun j => I 39 j &&& (I 39 j - 1)) (I 39) i) ?_
    exact ih
set_option maxRecDepth 100000 in
set_option maxHeartbeats 2000000 in
theorem c_wel_33 {g : Gl} {I : Ty} {L : TL} {na nt ni m : Nat} {nl : Nat → Nat} (pz : Nat) (cz : Nat) (pp : Nat) (hpp : pp ≤ 6) (hpe : I 33 1 = nI pp) (hpz : pz < 6) (hcz : cz < 16) (hxm : 2 * nt ≤ m) (hsl : sln nl nt ≤ 100) (hok : okSt (I (scell nt)) (sln nl nt)) (hch : ChOK (I 39)) : Ct g yX2_welcomeOf cX2_welcomeOf 5 (some .int) 1 0 0 [.ref (g.1 + 33), .int (nI pz), .int (nI cz)] I L (RT na nt ni) (NT nl) (NB + m) (fun v_ I_ L_ R_ N_ n_ => v_ = some (.int (Wl (I 34) (I 35) (I 36) (I 41) pp (nsW I nl nt) (I 33 9) (I 37) (I 39) pz cz)) ∧ (∃ f, I_ = va_up I 42 f) ∧ L_ = L ∧ R_ = RT na nt ni ∧ N_ = NT nl ∧ n_ = NB + m) := by
  refine ct_of (by decide +kernel) (Nat.le_of_ble_eq_true rfl) (fun F hnm hr => ?_)
  clear hnm
  show V g F cX2_welcomeOf RX2 5 1 0 [(0, .ref (g.1 + 33)), (1, .int (nI pz)), (2, .int (nI cz))] [] I L (RT na nt ni) (NT nl) (NB + m) 0 0
  have hbc := bitc_le (I 39 pz) 16
  refine v_aload_n dX2_welcomeOf_0 rfl 0 rfl ?_
  refine v_get (v := .ref (g.1 + 36)) fa_X2_18 dX2_welcomeOf_1 rfl (by decide) (ltn rfl) rfl ?_
  refine v_iload_n dX2_welcomeOf_4 rfl 1 rfl ?_
  refine v_iaload (len := 6) (j := pz) dX2_welcomeOf_5 rfl (ltn rfl) rfl (by decide) rfl (by omega) ?_
  refine v_istore_n (lv2 := [(3, .int (I 36 pz)), (0, .ref (g.1 + 33)), (1, .int (nI pz)), (2, .int (nI cz))]) dX2_welcomeOf_6 rfl (by decide) rfl ?_
  refine v_aload_n dX2_welcomeOf_7 rfl 1 rfl ?_
  refine v_get (v := .ref (g.1 + 42)) fa_X2_42 dX2_welcomeOf_8 rfl (by decide) (ltn rfl) rfl ?_
  refine v_iconst (v := 0) dX2_welcomeOf_11 (by decide) ?_
  refine v_iload_n dX2_welcomeOf_12 rfl 2 rfl ?_
  refine v_iastore (len := 8) (j := 0) dX2_welcomeOf_13 rfl (ltn rfl) rfl (by decide) rfl (by omega) ?_
  refine v_aload_n dX2_welcomeOf_14 rfl 1 rfl ?_
  refine v_get (v := .ref (g.1 + 42)) fa_X2_42 dX2_welcomeOf_15 rfl (by decide) (ltn rfl) rfl ?_
  refine v_iconst (v := 1) dX2_welcomeOf_18 (by decide) ?_
  refine v_aload_n dX2_welcomeOf_19 rfl 1 rfl ?_
  refine v_get (v := .ref (g.1 + 35)) fa_X2_15 dX2_welcomeOf_20 rfl (by decide) (ltn rfl) rfl ?_
  refine v_iload_n dX2_welcomeOf_23 rfl 2 rfl ?_
  refine v_iaload (len := 6) (j := pz) dX2_welcomeOf_24 rfl (ltn rfl) rfl (by decide) rfl (by omega) ?_
  refine v_is (y := I 35 pz) (by first | rfl | simp [va_up]) ?_
  refine v_iastore (len := 8) (j := 1) dX2_welcomeOf_25 rfl (ltn rfl) rfl (by decide) rfl (by omega) ?_
  refine v_aload_n dX2_welcomeOf_26 rfl 1 rfl ?_
  refine v_get (v := .ref (g.1 + 42)) fa_X2_42 dX2_welcomeOf_27 rfl (by decide) (ltn rfl) rfl ?_
  refine v_iconst (v := 2) dX2_welcomeOf_30 (by decide) ?_
  refine v_iload_n dX2_welcomeOf_31 rfl 0 rfl ?_
  refine v_iastore (len := 8) (j := 2) dX2_welcomeOf_32 rfl (ltn rfl) rfl (by decide) rfl (by omega) ?_
  refine v_aload_n dX2_welcomeOf_33 rfl 1 rfl ?_
  refine v_get (v := .ref (g.1 + 42)) fa_X2_42 dX2_welcomeOf_34 rfl (by decide) (ltn rfl) rfl ?_
  refine v_iconst (v := 3) dX2_welcomeOf_37 (by decide) ?_
  refine v_iload_n dX2_welcomeOf_38 rfl 3 rfl ?_
  refine v_iastore (len := 8) (j := 3) dX2_welcomeOf_39 rfl (ltn rfl) rfl (by decide) rfl (by omega) ?_
  refine v_aload_n dX2_welcomeOf_40 rfl 1 rfl ?_
  refine v_get (v := .ref (g.1 + 42)) fa_X2_42 dX2_welcomeOf_41 rfl (by decide) (ltn rfl) rfl ?_
  refine v_iconst (v := 4) dX2_welcomeOf_44 (by decide) ?_
  refine v_aload_n dX2_welcomeOf_45 rfl 1 rfl ?_
  refine v_get (v := .ref (g.1 + 34)) fa_X2_9 dX2_welcomeOf_46 rfl (by decide) (ltn rfl) rfl ?_
  refine v_iload_n dX2_welcomeOf_49 rfl 3 rfl ?_
  refine v_iaload (len := 16) (j := cz) dX2_welcomeOf_50 rfl (ltn rfl) rfl (by decide) rfl (by omega) ?_
  refine v_is (y := I 34 cz) (by first | rfl | simp [va_up]) ?_
  refine v_iastore (len := 8) (j := 4) dX2_welcomeOf_51 rfl (ltn rfl) rfl (by decide) rfl (by omega) ?_
  refine v_aload_n dX2_welcomeOf_52 rfl 1 rfl ?_
  refine v_get (v := .ref (g.1 + 42)) fa_X2_42 dX2_welcomeOf_53 rfl (by decide) (ltn rfl) rfl ?_
  refine v_iconst (v := 5) dX2_welcomeOf_56 (by decide) ?_
  refine v_aload_n dX2_welcomeOf_57 rfl 1 rfl ?_
  refine v_get (v := .int (I 33 9)) fa_X2_62 dX2_welcomeOf_58 rfl (by decide) (ltn rfl) rfl ?_
  refine v_bipush (v := 10) dX2_welcomeOf_61 (by decide) ?_
  refine v_irem dX2_welcomeOf_63 (by decide) ?_
  refine v_iastore (len := 8) (j := 5) dX2_welcomeOf_64 rfl (ltn rfl) rfl (by decide) rfl (by omega) ?_
  refine v_I (I2 := (va_up I 42 (ftU (I 42) (nI pz) (I 35 pz) (I 36 pz) (nI cz) (I 34 cz) (I 33 9 - I 33 9 / 10 * 10)))) (wr6 _ _ _ _ _ _ _ _) ?_
  refine v_aload_n dX2_welcomeOf_65 rfl 1 rfl ?_
  refine v_get (v := .ref (g.1 + 34)) fa_X2_9 dX2_welcomeOf_66 rfl (by decide) (ltn rfl) rfl ?_
  refine v_iload_n dX2_welcomeOf_69 rfl 3 rfl ?_
  refine v_iaload (len := 16) (j := cz) dX2_welcomeOf_70 rfl (ltn rfl) rfl (by decide) rfl (by omega) ?_
  refine v_is (y := I 34 cz) (by rfl) ?_
  refine v_aload_n dX2_welcomeOf_71 rfl 1 rfl ?_
  refine v_get (v := .ref (g.1 + (ncell nt))) fa_X2_45 dX2_welcomeOf_72 rfl (by decide) (ltn rfl) rfl ?_
  refine v_aload_n dX2_welcomeOf_75 rfl 1 rfl ?_
  refine v_get (v := .ref (g.1 + 42)) fa_X2_42 dX2_welcomeOf_76 rfl (by decide) (ltn rfl) rfl ?_
  refine v_callVi (As := [.ref (g.1 + 42)]) (rest := [.int (I 34 cz)]) lk_X2_65 (c_ols_33 (I := (va_up I 42 (ftU (I 42) (nI pz) (I 35 pz) (I 36 pz) (nI cz) (I 34 cz) (I 33 9 - I 33 9 / 10 * 10)))) nt hxm hsl) dX2_welcomeOf_79 (kd_nc nt) (lt_nc hxm) rfl rfl (Nat.le_of_ble_eq_true rfl) (by decide) ?_
  refine v_is (y := (olsS (I (scell nt)) (ftU (I 42) (nI pz) (I 35 pz) (I 36 pz) (nI cz) (I 34 cz) (I 33 9 - I 33 9 / 10 * 10)) (sln nl nt)).1) (by rw [up_at, up_off _ _ (scell_ne nt (by decide) (by decide))]) ?_
  refine v_iadd dX2_welcomeOf_82 ?_
  refine v_is (y := (nsW I nl nt (fctV pz cz (I 35 pz) (I 36 pz) (I 34 cz) (I 33 9 - I 33 9 / 10 * 10)) (I 34 cz))) (nsW_e hok) ?_
  refine v_istore (lv2 := [(4, .int (nsW I nl nt (fctV pz cz (I 35 pz) (I 36 pz) (I 34 cz) (I 33 9 - I 33 9 / 10 * 10)) (I 34 cz))), (3, .int (I 36 pz)), (0, .ref (g.1 + 33)), (1, .int (nI pz)), (2, .int (nI cz))]) dX2_welcomeOf_83 (by decide) rfl ?_
  refine v_aload_n dX2_welcomeOf_85 rfl 2 rfl ?_
  refine v_get (v := .ref (g.1 + 35)) fa_X2_15 dX2_welcomeOf_86 rfl (by decide) (ltn rfl) rfl ?_
  refine v_iload_n dX2_welcomeOf_89 rfl 3 rfl ?_
  refine v_iaload (len := 6) (j := pz) dX2_welcomeOf_90 rfl (ltn rfl) rfl (by decide) rfl (by omega) ?_
  refine v_is (y := I 35 pz) (by rfl) ?_
  by_cases k1_1 : I 35 pz = 1
  · refine v_is k1_1 ?_
    refine v_tabIn (off := 37) (tgt := 128) dX2_welcomeOf_91 (by decide) (by decide) (by decide) (by decide) ?_
    refine v_iload dX2_welcomeOf_128 0 rfl ?_
    refine v_iload_n dX2_welcomeOf_130 rfl 1 rfl ?_
    refine v_iadd dX2_welcomeOf_131 ?_
    exact v_iret hr dX2_welcomeOf_132 (⟨congrArg (fun z => some (Value.int z)) (by unfold Wl welV; rw [ifc_t k1_1] <;> first | rfl | (rw [Int32.sub_zero])), ⟨_, rfl⟩, rfl, rfl, rfl, rfl⟩)
  by_cases k1_2 : I 35 pz = 2
  · refine v_is k1_2 ?_
    refine v_tabIn (off := 42) (tgt := 133) dX2_welcomeOf_91 (by decide) (by decide) (by decide) (by decide) ?_
    refine v_iload dX2_welcomeOf_133 0 rfl ?_
    refine v_iconst (v := 2) dX2_welcomeOf_135 (by decide) ?_
    refine v_idiv dX2_welcomeOf_136 (by decide) ?_
    refine v_iconst (v := 1) dX2_welcomeOf_137 (by decide) ?_
    refine v_iadd dX2_welcomeOf_138 ?_
    exact v_iret hr dX2_welcomeOf_139 (⟨congrArg (fun z => some (Value.int z)) (by unfold Wl welV; rw [ifc_f k1_1, ifc_t k1_2] <;> first | rfl | (rw [Int32.sub_zero])), ⟨_, rfl⟩, rfl, rfl, rfl, rfl⟩)
  by_cases k1_3 : I 35 pz = 3
  · refine v_is k1_3 ?_
    refine v_tabIn (off := 49) (tgt := 140) dX2_welcomeOf_91 (by decide) (by decide) (by decide) (by decide) ?_
    refine v_iload_n dX2_welcomeOf_140 rfl 4 rfl ?_
    refine v_iload_n dX2_welcomeOf_141 rfl 1 rfl ?_
    refine v_icmp_ge (tgt := 150) dX2_welcomeOf_142 (by decide) (fun h2 => ?_) (fun h2 => ?_)
    · -- nI cz ge I 36 pz
      have h2n := Int32.not_lt.mpr h2
      refine v_iload dX2_welcomeOf_150 0 rfl ?_
      exact v_iret hr dX2_welcomeOf_152 (⟨congrArg (fun z => some (Value.int z)) (by unfold Wl welV; rw [ifc_f k1_1, ifc_f k1_2, ifc_t k1_3, ifc_f h2n] <;> first | rfl | (rw [Int32.sub_zero])), ⟨_, rfl⟩, rfl, rfl, rfl, rfl⟩)
    · -- nI cz lt I 36 pz
      have h2n := Int32.not_le.mp h2
      refine v_bipush (v := 9) dX2_welcomeOf_145 (by decide) ?_
      refine v_goto (tgt := 152) dX2_welcomeOf_147 (by decide) ?_
      exact v_iret hr dX2_welcomeOf_152 (⟨congrArg (fun z => some (Value.int z)) (by unfold Wl welV; rw [ifc_f k1_1, ifc_f k1_2, ifc_t k1_3, ifc_t h2n] <;> first | rfl | (rw [Int32.sub_zero])), ⟨_, rfl⟩, rfl, rfl, rfl, rfl⟩)
  by_cases k1_4 : I 35 pz = 4
  · refine v_is k1_4 ?_
    refine v_tabIn (off := 62) (tgt := 153) dX2_welcomeOf_91 (by decide) (by decide) (by decide) (by decide) ?_
    refine v_iload dX2_welcomeOf_153 0 rfl ?_
    refine v_iload_n dX2_welcomeOf_155 rfl 1 rfl ?_
    refine v_iadd dX2_welcomeOf_156 ?_
    refine v_aload_n dX2_welcomeOf_157 rfl 2 rfl ?_
    refine v_iload_n dX2_welcomeOf_158 rfl 3 rfl ?_
    refine v_iload_n dX2_welcomeOf_159 rfl 4 rfl ?_
    refine v_callVi (As := [.int (nI pz), .int (nI cz)]) (rest := [.int ((nsW I nl nt (fctV pz cz (I 35 pz) (I 36 pz) (I 34 cz) (I 33 9 - I 33 9 / 10 * 10)) (I 34 cz)) + I 36 pz)]) lk_X2_69 (c_isOther_33 (I := (va_up I 42 (ftU (I 42) (nI pz) (I 35 pz) (I 36 pz) (nI cz) (I 34 cz) (I 33 9 - I 33 9 / 10 * 10)))) pz cz pp hpp hpe hpz hcz) dX2_welcomeOf_160 rfl (ltn rfl) rfl rfl (Nat.le_of_ble_eq_true rfl) (by decide) ?_
    refine v_is (y := (bq (∃ o, o < pp ∧ o ≠ pz ∧ I 37 o = nI cz))) rfl ?_
    refine v_ifb_eq (tgt := 171) dX2_welcomeOf_163 (by decide) (fun h3 => ?_) (fun h3 => ?_)
    · -- not (∃ o, o < pp ∧ o ≠ pz ∧ I 37 o = nI cz)
      refine v_iconst (v := 0) dX2_welcomeOf_171 (by decide) ?_
      refine v_isub dX2_welcomeOf_172 ?_
      exact v_iret hr dX2_welcomeOf_173 (⟨congrArg (fun z => some (Value.int z)) (by unfold Wl welV; rw [ifc_f k1_1, ifc_f k1_2, ifc_f k1_3, ifc_t k1_4, ifc_f h3] <;> first | rfl | (rw [Int32.sub_zero])), ⟨_, rfl⟩, rfl, rfl, rfl, rfl⟩)
    · -- (∃ o, o < pp ∧ o ≠ pz ∧ I 37 o = nI cz)
      refine v_bipush (v := 8) dX2_welcomeOf_166 (by decide) ?_
      refine v_goto (tgt := 172) dX2_welcomeOf_168 (by decide) ?_
      refine v_isub dX2_welcomeOf_172 ?_
      exact v_iret hr dX2_welcomeOf_173 (⟨congrArg (fun z => some (Value.int z)) (by unfold Wl welV; rw [ifc_f k1_1, ifc_f k1_2, ifc_f k1_3, ifc_t k1_4, ifc_t h3] <;> first | rfl | (rw [Int32.sub_zero])), ⟨_, rfl⟩, rfl, rfl, rfl, rfl⟩)
  by_cases k1_5 : I 35 pz = 5
  · refine v_is k1_5 ?_
    refine v_tabIn (off := 83) (tgt := 174) dX2_welcomeOf_91 (by decide) (by decide) (by decide) (by decide) ?_
    refine v_iload dX2_welcomeOf_174 0 rfl ?_
    refine v_iconst (v := 2) dX2_welcomeOf_176 (by decide) ?_
    refine v_idiv dX2_welcomeOf_177 (by decide) ?_
    refine v_iconst (v := 1) dX2_welcomeOf_178 (by decide) ?_
    refine v_iadd dX2_welcomeOf_179 ?_
    refine v_aload_n dX2_welcomeOf_180 rfl 2 rfl ?_
    refine v_get (v := .ref (g.1 + 39)) fa_X2_27 dX2_welcomeOf_181 rfl (by decide) (ltn rfl) rfl ?_
    refine v_iload_n dX2_welcomeOf_184 rfl 3 rfl ?_
    refine v_iaload (len := 6) (j := pz) dX2_welcomeOf_185 rfl (ltn rfl) rfl (by decide) rfl (by omega) ?_
    refine v_is (y := I 39 pz) (by rfl) ?_
    refine v_callSi (As := [.int (I 39 pz)]) (rest := [.int (((nsW I nl nt (fctV pz cz (I 35 pz) (I 36 pz) (I 34 cz) (I 33 9 - I 33 9 / 10 * 10)) (I 34 cz)) / 2) + 1)]) lk_X2_73 (c_bitCount (xz := (I 39 pz)) (hch _ (by omega))) dX2_welcomeOf_186 rfl rfl (Nat.le_of_ble_eq_true rfl) (by decide) ?_
    refine v_iconst (v := 2) dX2_welcomeOf_189 (by decide) ?_
    refine v_idiv dX2_welcomeOf_190 (by decide) ?_
    refine v_is (nx_div rfl (d := 2) (by omega) (by decide) (by decide)) ?_
    refine v_iadd dX2_welcomeOf_191 ?_
    exact v_iret hr dX2_welcomeOf_192 (⟨congrArg (fun z => some (Value.int z)) (by unfold Wl welV; rw [ifc_f k1_1, ifc_f k1_2, ifc_f k1_3, ifc_f k1_4, ifc_t k1_5] <;> first | rfl | (rw [Int32.sub_zero])), ⟨_, rfl⟩, rfl, rfl, rfl, rfl⟩)
  by_cases k1_6 : I 35 pz = 6
  · refine v_is k1_6 ?_
    refine v_tabIn (off := 102) (tgt := 193) dX2_welcomeOf_91 (by decide) (by decide) (by decide) (by decide) ?_
    refine v_iload_n dX2_welcomeOf_193 rfl 4 rfl ?_
    refine v_iload_n dX2_welcomeOf_194 rfl 1 rfl ?_
    refine v_icmp_ge (tgt := 203) dX2_welcomeOf_195 (by decide) (fun h4 => ?_) (fun h4 => ?_)
    · -- nI cz ge I 36 pz
      have h4n := Int32.not_lt.mpr h4
      refine v_iload dX2_welcomeOf_203 0 rfl ?_
      refine v_aload_n dX2_welcomeOf_205 rfl 2 rfl ?_
      refine v_get (v := .ref (g.1 + 41)) fa_X2_33 dX2_welcomeOf_206 rfl (by decide) (ltn rfl) rfl ?_
      refine v_iconst (v := 4) dX2_welcomeOf_209 (by decide) ?_
      refine v_iload_n dX2_welcomeOf_210 rfl 3 rfl ?_
      refine v_imul dX2_welcomeOf_211 ?_
      refine v_is (nx_mul rfl rfl) ?_
      refine v_iload_n dX2_welcomeOf_212 rfl 4 rfl ?_
      refine v_iconst (v := 4) dX2_welcomeOf_213 (by decide) ?_
      refine v_irem dX2_welcomeOf_214 (by decide) ?_
      refine v_is (nx_rem rfl (d := 4) (by omega) (by decide) (by decide)) ?_
      refine v_iadd dX2_welcomeOf_215 ?_
      refine v_is (nx_add rfl rfl) ?_
      refine v_iaload (len := 24) (j := ((4 * pz) + (cz % 4))) dX2_welcomeOf_216 rfl (ltn rfl) rfl (by decide) rfl (by omega) ?_
      refine v_is (y := I 41 ((4 * pz) + (cz % 4))) (by rfl) ?_
      refine v_iadd dX2_welcomeOf_217 ?_
      refine v_iconst (v := 4) dX2_welcomeOf_218 (by decide) ?_
      refine v_isub dX2_welcomeOf_219 ?_
      exact v_iret hr dX2_welcomeOf_220 (⟨congrArg (fun z => some (Value.int z)) (by unfold Wl welV; rw [ifc_f k1_1, ifc_f k1_2, ifc_f k1_3, ifc_f k1_4, ifc_f k1_5, ifc_t k1_6, ifc_f h4n] <;> first | rfl | (rw [Int32.sub_zero])), ⟨_, rfl⟩, rfl, rfl, rfl, rfl⟩)
    · -- nI cz lt I 36 pz
      have h4n := Int32.not_le.mp h4
      refine v_bipush (v := 9) dX2_welcomeOf_198 (by decide) ?_
      refine v_goto (tgt := 205) dX2_welcomeOf_200 (by decide) ?_
      refine v_aload_n dX2_welcomeOf_205 rfl 2 rfl ?_
      refine v_get (v := .ref (g.1 + 41)) fa_X2_33 dX2_welcomeOf_206 rfl (by decide) (ltn rfl) rfl ?_
      refine v_iconst (v := 4) dX2_welcomeOf_209 (by decide) ?_
      refine v_iload_n dX2_welcomeOf_210 rfl 3 rfl ?_
      refine v_imul dX2_welcomeOf_211 ?_
      refine v_is (nx_mul rfl rfl) ?_
      refine v_iload_n dX2_welcomeOf_212 rfl 4 rfl ?_
      refine v_iconst (v := 4) dX2_welcomeOf_213 (by decide) ?_
      refine v_irem dX2_welcomeOf_214 (by decide) ?_
      refine v_is (nx_rem rfl (d := 4) (by omega) (by decide) (by decide)) ?_
      refine v_iadd dX2_welcomeOf_215 ?_
      refine v_is (nx_add rfl rfl) ?_
      refine v_iaload (len := 24) (j := ((4 * pz) + (cz % 4))) dX2_welcomeOf_216 rfl (ltn rfl) rfl (by decide) rfl (by omega) ?_
      refine v_is (y := I 41 ((4 * pz) + (cz % 4))) (by rfl) ?_
      refine v_iadd dX2_welcomeOf_217 ?_
      refine v_iconst (v := 4) dX2_welcomeOf_218 (by decide) ?_
      refine v_isub dX2_welcomeOf_219 ?_
      exact v_iret hr dX2_welcomeOf_220 (⟨congrArg (fun z => some (Value.int z)) (by unfold Wl welV; rw [ifc_f k1_1, ifc_f k1_2, ifc_f k1_3, ifc_f k1_4, ifc_f k1_5, ifc_t k1_6, ifc_t h4n] <;> first | rfl | (rw [Int32.sub_zero])), ⟨_, rfl⟩, rfl, rfl, rfl, rfl⟩)
  have t5 : (I 35 pz).toInt < 1 ∨ 6 < (I 35 pz).toInt := by
    rcases sw_out (I 35 pz) (1) (6) with h | h | ⟨ha, hb⟩
    · exact Or.inl h
    · exact Or.inr h
    · exfalso
      have hz : ∀ z : Int, 1 ≤ z → z ≤ 6 → z = 1 ∨ z = 2 ∨ z = 3 ∨ z = 4 ∨ z = 5 ∨ z = 6 := by omega
      rcases hz _ ha hb with e | e | e | e | e | e
      · exact absurd (sw_eq (k := 1) e (by decide)) k1_1
      · exact absurd (sw_eq (k := 2) e (by decide)) k1_2
      · exact absurd (sw_eq (k := 3) e (by decide)) k1_3
      · exact absurd (sw_eq (k := 4) e (by decide)) k1_4
      · exact absurd (sw_eq (k := 5) e (by decide)) k1_5
      · exact absurd (sw_eq (k := 6) e (by decide)) k1_6
  refine v_tabOut (tgt := 221) dX2_welcomeOf_91 t5 (by decide) ?_
  refine v_iload dX2_welcomeOf_221 0 rfl ?_
  exact v_iret hr dX2_welcomeOf_223 (⟨congrArg (fun z => some (Value.int z)) (by unfold Wl welV; rw [ifc_f k1_1, ifc_f k1_2, ifc_f k1_3, ifc_f k1_4, ifc_f k1_5, ifc_f k1_6] <;> first | rfl | (rw [Int32.sub_zero])), ⟨_, rfl⟩, rfl, rfl, rfl, rfl⟩)
