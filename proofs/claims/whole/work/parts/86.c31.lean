theorem mpG33_G (I : Ty) (y y2 : ZG) (f f2 : Nat → Int32) : va_up (mpG33 (va_up (mpG33 I y) 42 f) y2) 42 f2 = va_up (mpG33 I y2) 42 f2 := by
  unfold mpG33 mpH33 mpC33
  funext a
  by_cases h33 : a = 33
  · subst h33; first | rfl | (funext jz; by_cases h9 : jz = 9; (subst h9; rfl); simp [va_up, h9]; done)
  by_cases h37 : a = 37
  · subst h37; rfl
  by_cases h38 : a = 38
  · subst h38; rfl
  by_cases h39 : a = 39
  · subst h39; rfl
  by_cases h40 : a = 40
  · subst h40; rfl
  by_cases h42 : a = 42
  · subst h42; rfl
  simp [h33, h37, h38, h39, h40, h42, va_up]
theorem chF_16 {ch : Nat → Int32} {st : Int32} (h : ChOK ch) : ∀ n, n ≤ 6 → inr (chF ch st n) 65536
  | 0, _ => by show inr 0 65536; exact ⟨by decide, by decide⟩
  | n + 1, hn => by
    have ih := chF_16 (st := st) h n (by omega)
    show inr (ifc (hb st n) _ _) 65536
    by_cases q : hb st n
    · rw [ifc_t q]; exact s16_inr.mp (s16_or (s16_inr.mpr ih) (s16_inr.mpr (h n (by omega))))
    · rw [ifc_f q]; exact ih
theorem arrF_16 {sp gl : Nat → Int32} : ∀ n, n ≤ 16 → inr (arrF sp gl n) 65536
  | 0, _ => by show inr 0 65536; exact ⟨by decide, by decide⟩
  | n + 1, hn => by
    have ih := arrF_16 (sp := sp) (gl := gl) n (by omega)
    show inr (arrF sp gl n ||| ifc (sp n = gl n) _ 0) 65536
    by_cases q : sp n = gl n
    · rw [ifc_t q]; exact ch_or ih (by omega)
    · rw [ifc_f q, Int32.or_zero]; exact ih
def okY (y : ZG) : Prop := okT y.1.1 ∧ okG y.2
section
variable {go : Int32} {ga kd vv rw : Nat → Int32} {pp : Nat} {ns : (Int32 → Int32) → Int32 → Int32} {fd : Int32} {less : Int32 → Int32}
theorem plan1C_0 (y : ZG) (q q2 : Nat) : plan1C go ga kd vv rw pp ns fd less y 0 q = plan1C go ga kd vv rw pp ns fd less y 0 q2 := by unfold plan1C; rw [ifc_t rfl, ifc_t rfl]
theorem plan1C_ok {y : ZG} {wt : Nat} {x : Int32} (hpp : pp ≤ 6) (h : okY y) (hx : plnOK pp wt x) : okY (plan1C go ga kd vv rw pp ns fd less y wt (tn x)) := by
  unfold plan1C
  rcases hx with e | ⟨q, e, hq, ⟨e2, h1⟩ | ⟨e2, h1, h2⟩ | ⟨e2, h1⟩⟩
  · rw [ifc_t e]; exact ⟨chr1_ok hpp h.1 h.2, h.2⟩
  · rw [ifc_f (by omega), ifc_t e2]
    refine ⟨⟨h.1.1, fun p hp => ?_⟩, h.2⟩
    show inr (va_up _ _ _ p) 65536
    by_cases ep : p = tn x
    · rw [ep, up_at]; exact ⟨by decide, by decide⟩
    · rw [up_off _ _ ep]; exact h.1.2 p hp
  · rw [ifc_f (by omega), ifc_f (by omega), ifc_t e2]
    refine ⟨⟨h.1.1, fun p hp => ?_⟩, h.2⟩
    show inr (va_up _ _ _ p) 65536
    by_cases ep : p = tn x / 10
    · rw [ep, up_at]
      exact s16_inr.mp (s16_or (s16_inr.mpr (by rw [← ep]; exact h.1.2 p hp)) (s16_inr.mpr (chF_16 h.1.2 pp hpp)))
    · rw [up_off _ _ ep]; exact h.1.2 p hp
  · rw [ifc_f (by omega), ifc_f (by omega), ifc_f (by omega)]
    refine ⟨h.1, fun p hp => ?_⟩
    show va_up y.2 (tn x) (-1) p < 0 ∨ ∃ c, c < 16 ∧ va_up y.2 (tn x) (-1) p = nI c
    by_cases ep : p = tn x
    · rw [ep, up_at]; exact Or.inl (by decide)
    · rw [up_off _ _ ep]; exact h.2 p hp
noncomputable def plNC (go : Int32) (ga kd vv rw : Nat → Int32) (pp : Nat) (ns : (Int32 → Int32) → Int32 → Int32) (fd : Int32) (less : Int32 → Int32) (f : Nat → Int32) (y : ZG) : Nat → ZG
  | 0 => y
  | k + 1 => plan1C go ga kd vv rw pp ns fd less (plNC go ga kd vv rw pp ns fd less f y k) (tn (f (3 * k))) (tn (f (3 * k + 1)))
theorem plNC_ok {f : Nat → Int32} {y : ZG} {n : Nat} (hpp : pp ≤ 6) (h : okY y) (hf : ∀ k, k < n → ∃ w, f (3 * k) = nI w ∧ w < 4 ∧ plnOK pp w (f (3 * k + 1))) : ∀ k, k ≤ n → okY (plNC go ga kd vv rw pp ns fd less f y k)
  | 0, _ => h
  | k + 1, hk => by
    obtain ⟨w, hw, hw4, hx⟩ := hf k (by omega)
    show okY (plan1C _ _ _ _ _ _ _ _ _ (plNC go ga kd vv rw pp ns fd less f y k) (tn (f (3 * k))) (tn (f (3 * k + 1))))
    rw [hw, tn_nI (by omega)]
    exact plan1C_ok hpp (plNC_ok hpp h hf k (by omega)) hx
end
theorem c_goPl {g : Gl} {I : Ty} {L : TL} {na nt ni m : Nat} {nl : Nat → Nat} (pp wt : Nat) (xz : Int32) (hx : plnOK pp wt xz) (hpp : pp ≤ 6) (hpe : I 33 1 = nI pp) (hxm : 2 * nt ≤ m) (hsl : sln nl nt ≤ 100) (hok : okSt (I (scell nt)) (sln nl nt)) (hS : okS (mgC33 I)) (hch : ChOK (I 39)) (hG : okG (I 38)) : Ct g yX2_goPlanned cX2_goPlanned 4 none 5 0 0 [.ref (g.1 + 33), .int (nI wt), .int xz] I L (RT na nt ni) (NT nl) (NB + m) (Pfa 42 none (mpG33 I (plan1C (I 33 11) (I 34) (I 35) (I 36) (I 41) pp (nsW I nl nt) (I (ncell nt) 0) (lessC 1000000) (mgG33 I) wt (tn xz))) L (RT na nt ni) (NT nl) (NB + m)) := by
  rcases hx with e | ⟨q, e, hq, ⟨e2, h1⟩ | ⟨e2, h1, h2⟩ | ⟨e2, h1⟩⟩
  · subst e; rw [plan1C_0 _ _ 0]; exact c_goPl0 xz pp hpp hpe hxm hsl hok hS hch hG
  · subst e; subst e2; rw [tn_nI hq]; exact c_goPl1 q pp hpp hpe h1
  · subst e; subst e2; rw [tn_nI hq]; exact c_goPl2 q pp hpp hpe hq h1 h2
  · subst e; subst e2; rw [tn_nI hq]; exact c_goPl3 q pp hpp hpe h1
theorem offS_G (I : Ty) (y : ZG) (f : Nat → Int32) : offS (va_up (mpG33 (cpL I 33 23) y) 42 f) I := offS_up (offS_up (offS_H (offS_cp (offS_0 I))) (by decide) (by decide)) (by decide) (by decide)
set_option maxRecDepth 100000 in
set_option maxHeartbeats 4000000 in
theorem c_X8_ends {g : Gl} {I : Ty} {L : TL} {na nt ni m : Nat} {nl : Nat → Nat} (wz : Int32) (pp : Nat) (hpp : pp ≤ 6) (hpe : I 23 1 = nI pp) (hxm : 2 * na ≤ m) (hsl : sln nl na ≤ 100) (hok : okSt (I (scell na)) (sln nl na)) (hS : okS (mgC23 I)) (hch : ChOK (I 29)) (hG : okG (I 28)) (kn : Nat) (hkl : kn ≤ 8) (hkn : I 4 0 = nI kn) (hPl : ∀ k, k < kn → ∃ w, I 5 (3 * k) = nI w ∧ w < 4 ∧ plnOK pp w (I 5 (3 * k + 1))) : Ct g yX8_ends cX8_ends 3 (some .int) 6 0 0 [.ref (g.1 + 0), .int wz] I L (RT na nt ni) (NT nl) (NB + m) (PZ na ni m nl (some (.int (ifc (inr wz 2) (ifc (wz = 0) (nI (bitc (arrF (plNC 63 (I 24) (I 25) (I 26) (I 31) pp (nsW I nl na) (I (ncell na) 0) (lessC 1000000) (I 5) (mgH23 I, I 28) kn).1.1.1 (plNC 63 (I 24) (I 25) (I 26) (I 31) pp (nsW I nl na) (I (ncell na) 0) (lessC 1000000) (I 5) (mgH23 I, I 28) kn).2 pp) 16)) (sumF (plNC 63 (I 24) (I 25) (I 26) (I 31) pp (nsW I nl na) (I (ncell na) 0) (lessC 1000000) (I 5) (mgH23 I, I 28) kn).1.1.2.2 pp)) (-1)))) (I) L) := by
  refine ct_of (by decide +kernel) (Nat.le_of_ble_eq_true rfl) (fun F hnm hr => ?_)
  clear hnm
  show V g F cX8_ends RX8 3 6 0 [(0, .ref (g.1 + 0)), (1, .int wz)] [] I L (RT na nt ni) (NT nl) (NB + m) 0 0
  refine v_iload_n dX8_ends_0 rfl 1 rfl ?_
  refine v_if_lt (tgt := 9) dX8_ends_1 (by decide) (fun h1 => ?_) (fun h1 => ?_)
  · -- wz lt 0
    have r2 : ¬ inr wz 2 := inr_lo h1
    refine v_iconst (v := (-1)) dX8_ends_9 (by decide) ?_
    exact v_iret hr dX8_ends_10 (⟨congrArg (fun z => some (Value.int z)) (by rw [ifc_f r2]), ⟨_, scC_self _⟩, rfl, ⟨_, rfl⟩, rfl, rfl⟩)
  · -- wz ge 0
    refine v_iload_n dX8_ends_4 rfl 1 rfl ?_
    refine v_iconst (v := 1) dX8_ends_5 (by decide) ?_
    refine v_icmp_le (tgt := 11) dX8_ends_6 (by decide) (fun h3 => ?_) (fun h3 => ?_)
    · -- wz le 1
      have r4 : inr wz 2 := inr_mk2 (k := 1) (by omega) h1 (Int32.not_lt.mpr h3)
      have e5 := inr_nI r4
      have l6 := inr_lt r4
      have h3n := Int32.not_lt.mpr h3
      refine v_aload_n dX8_ends_11 rfl 0 rfl ?_
      refine v_get (v := .ref (g.1 + 33)) fa_X8_55 dX8_ends_12 rfl (by decide) (ltn rfl) rfl ?_
      refine v_aload_n dX8_ends_15 rfl 0 rfl ?_
      refine v_get (v := .ref (g.1 + 23)) fa_X8_51 dX8_ends_16 rfl (by decide) (ltn rfl) rfl ?_
      refine v_callVv (As := [.ref (g.1 + 23)]) (rest := []) lk_X8_229 (c_copyFrom_33_23 (I := I)) dX8_ends_19 rfl (ltn rfl) rfl rfl (Nat.le_of_ble_eq_true rfl) (by decide) ?_
      refine v_iconst (v := 0) dX8_ends_22 (by decide) ?_
      refine v_istore_n (lv2 := [(2, .int 0), (0, .ref (g.1 + 0)), (1, .int wz)]) dX8_ends_23 rfl (by decide) rfl ?_
      refine v_lv (lv2 := [(2, .int (nI 0)), (0, .ref (g.1 + 0)), (1, .int wz)]) (by rfl) ?_
      refine v_I (I2 := (va_up (mpG33 (cpL I 33 23) (plNC 63 (I 24) (I 25) (I 26) (I 31) pp (nsW I nl na) (I (ncell na) 0) (lessC 1000000) (I 5) (mgH23 I, I 28) 0)) 42 (I 42))) (by exact mpG33_0 (cpL I 33 23)) ?_
      refine dloop (P := fun i => ∀ (fq : Nat → Int32), V g F cX8_ends RX8 3 6 24 [(2, .int (nI i)), (0, .ref (g.1 + 0)), (1, .int wz)] [] (va_up (mpG33 (cpL I 33 23) (plNC 63 (I 24) (I 25) (I 26) (I 31) pp (nsW I nl na) (I (ncell na) 0) (lessC 1000000) (I 5) (mgH23 I, I 28) i)) 42 fq) L (RT na na ni) (NT nl) (NB + m) 0 0) kn ?_ ?_ 0 (Nat.zero_le _) (I 42)
      · intro fq
        refine v_iload_n dX8_ends_24 rfl 0 rfl ?_
        refine v_aload_n dX8_ends_25 rfl 1 rfl ?_
        refine v_get (v := .ref (g.1 + 1)) fa_X8_12 dX8_ends_26 rfl (by decide) (ltn rfl) rfl ?_
        refine v_get (v := .ref (g.1 + 4)) fa_X8_222 dX8_ends_29 rfl (by decide) (ltn rfl) rfl ?_
        refine v_get (v := .int ((va_up (mpG33 (cpL I 33 23) (plNC 63 (I 24) (I 25) (I 26) (I 31) pp (nsW I nl na) (I (ncell na) 0) (lessC 1000000) (I 5) (mgH23 I, I 28) kn)) 42 fq) 4 0)) fa_X8_233 dX8_ends_32 rfl (by decide) (ltn rfl) rfl ?_
        refine v_is (y := I 4 0) (by rfl) ?_
        refine v_is hkn ?_
        refine v_icmp_geN (a := kn) (b := kn) (tgt := 73) dX8_ends_35 (by decide) rfl rfl (by omega) (by omega) (fun h7 => ?_) (fun h => by exfalso; omega)
        refine v_iload_n dX8_ends_73 rfl 2 rfl ?_
        refine v_if_ne (tgt := 90) dX8_ends_74 (by decide) (fun h9 => ?_) (fun h9 => ?_)
        · refine v_aload_n dX8_ends_90 rfl 1 rfl ?_
          refine v_get (v := .ref (g.1 + 33)) fa_X8_55 dX8_ends_91 rfl (by decide) (ltn rfl) rfl ?_
          refine v_callVi (As := []) (rest := []) lk_X8_162 (c_allNoes_33 (I := (va_up (mpG33 (cpL I 33 23) (plNC 63 (I 24) (I 25) (I 26) (I 31) pp (nsW I nl na) (I (ncell na) 0) (lessC 1000000) (I 5) (mgH23 I, I 28) kn)) 42 fq)) pp hpp hpe) dX8_ends_94 rfl (ltn rfl) rfl rfl (Nat.le_of_ble_eq_true rfl) (by decide) ?_
          refine v_is (y := (sumF (plNC 63 (I 24) (I 25) (I 26) (I 31) pp (nsW I nl na) (I (ncell na) 0) (lessC 1000000) (I 5) (mgH23 I, I 28) kn).1.1.2.2 pp)) rfl ?_
          exact v_iret hr dX8_ends_97 (⟨congrArg (fun z => some (Value.int z)) (by rw [ifc_t r4, ifc_f h9]), ⟨_, scC_off (offS_G I _ _)⟩, rfl, ⟨_, rfl⟩, rfl, rfl⟩)
        · refine v_aload_n dX8_ends_77 rfl 1 rfl ?_
          refine v_get (v := .ref (g.1 + 33)) fa_X8_55 dX8_ends_78 rfl (by decide) (ltn rfl) rfl ?_
          refine v_callVi (As := []) (rest := []) lk_X8_158 (c_atGoals_33 (I := (va_up (mpG33 (cpL I 33 23) (plNC 63 (I 24) (I 25) (I 26) (I 31) pp (nsW I nl na) (I (ncell na) 0) (lessC 1000000) (I 5) (mgH23 I, I 28) kn)) 42 fq)) pp hpp hpe) dX8_ends_81 rfl (ltn rfl) rfl rfl (Nat.le_of_ble_eq_true rfl) (by decide) ?_
          refine v_is (y := (arrF (plNC 63 (I 24) (I 25) (I 26) (I 31) pp (nsW I nl na) (I (ncell na) 0) (lessC 1000000) (I 5) (mgH23 I, I 28) kn).1.1.1 (plNC 63 (I 24) (I 25) (I 26) (I 31) pp (nsW I nl na) (I (ncell na) 0) (lessC 1000000) (I 5) (mgH23 I, I 28) kn).2 pp)) rfl ?_
          refine v_callSi (As := [.int (arrF (plNC 63 (I 24) (I 25) (I 26) (I 31) pp (nsW I nl na) (I (ncell na) 0) (lessC 1000000) (I 5) (mgH23 I, I 28) kn).1.1.1 (plNC 63 (I 24) (I 25) (I 26) (I 31) pp (nsW I nl na) (I (ncell na) 0) (lessC 1000000) (I 5) (mgH23 I, I 28) kn).2 pp)]) (rest := []) lk_X8_202 (c_bitCount (xz := (arrF (plNC 63 (I 24) (I 25) (I 26) (I 31) pp (nsW I nl na) (I (ncell na) 0) (lessC 1000000) (I 5) (mgH23 I, I 28) kn).1.1.1 (plNC 63 (I 24) (I 25) (I 26) (I 31) pp (nsW I nl na) (I (ncell na) 0) (lessC 1000000) (I 5) (mgH23 I, I 28) kn).2 pp)) (arrF_16 pp (by omega))) dX8_ends_84 rfl rfl (Nat.le_of_ble_eq_true rfl) (by decide) ?_
          refine v_goto (tgt := 97) dX8_ends_87 (by decide) ?_
          exact v_iret hr dX8_ends_97 (⟨congrArg (fun z => some (Value.int z)) (by rw [ifc_t r4, ifc_t h9]), ⟨_, scC_off (offS_G I _ _)⟩, rfl, ⟨_, rfl⟩, rfl, rfl⟩)
      · intro i hi ih
        intro fq
        obtain ⟨wt, hwe, hw4, hwx⟩ := hPl i hi
        have hY : okY (plNC 63 (I 24) (I 25) (I 26) (I 31) pp (nsW I nl na) (I (ncell na) 0) (lessC 1000000) (I 5) (mgH23 I, I 28) i) := plNC_ok hpp ⟨⟨hS, hch⟩, hG⟩ hPl i (by omega)
        have hsS : ((va_up (mpG33 (cpL I 33 23) (plNC 63 (I 24) (I 25) (I 26) (I 31) pp (nsW I nl na) (I (ncell na) 0) (lessC 1000000) (I 5) (mgH23 I, I 28) i)) 42 fq)) (scell na) = I (scell na) := offS_s (offS_G I _ _)
        have hsN : ((va_up (mpG33 (cpL I 33 23) (plNC 63 (I 24) (I 25) (I 26) (I 31) pp (nsW I nl na) (I (ncell na) 0) (lessC 1000000) (I 5) (mgH23 I, I 28) i)) 42 fq)) (ncell na) = I (ncell na) := offS_n (offS_G I _ _)
        refine v_iload_n dX8_ends_24 rfl 0 rfl ?_
        refine v_aload_n dX8_ends_25 rfl 1 rfl ?_
        refine v_get (v := .ref (g.1 + 1)) fa_X8_12 dX8_ends_26 rfl (by decide) (ltn rfl) rfl ?_
        refine v_get (v := .ref (g.1 + 4)) fa_X8_222 dX8_ends_29 rfl (by decide) (ltn rfl) rfl ?_
        refine v_get (v := .int ((va_up (mpG33 (cpL I 33 23) (plNC 63 (I 24) (I 25) (I 26) (I 31) pp (nsW I nl na) (I (ncell na) 0) (lessC 1000000) (I 5) (mgH23 I, I 28) i)) 42 fq) 4 0)) fa_X8_233 dX8_ends_32 rfl (by decide) (ltn rfl) rfl ?_
        refine v_is (y := I 4 0) (by rfl) ?_
        refine v_is hkn ?_
        refine v_icmp_geN (a := i) (b := kn) (tgt := 73) dX8_ends_35 (by decide) rfl rfl (by omega) (by omega) (fun h => by exfalso; omega) (fun h10 => ?_)
        refine v_aload_n dX8_ends_38 rfl 1 rfl ?_
        refine v_get (v := .ref (g.1 + 33)) fa_X8_55 dX8_ends_39 rfl (by decide) (ltn rfl) rfl ?_
        refine v_aload_n dX8_ends_42 rfl 1 rfl ?_
        refine v_get (v := .ref (g.1 + 1)) fa_X8_12 dX8_ends_43 rfl (by decide) (ltn rfl) rfl ?_
        refine v_get (v := .ref (g.1 + 4)) fa_X8_222 dX8_ends_46 rfl (by decide) (ltn rfl) rfl ?_
        refine v_iload_n dX8_ends_49 rfl 0 rfl ?_
        refine v_callVi (As := [.int (nI i)]) (rest := [.ref (g.1 + 33)]) lk_X8_235 (c_first_4 (I := (va_up (mpG33 (cpL I 33 23) (plNC 63 (I 24) (I 25) (I 26) (I 31) pp (nsW I nl na) (I (ncell na) 0) (lessC 1000000) (I 5) (mgH23 I, I 28) i)) 42 fq)) i (by omega)) dX8_ends_50 rfl (ltn rfl) rfl rfl (Nat.le_of_ble_eq_true rfl) (by decide) ?_
        refine v_aload_n dX8_ends_53 rfl 1 rfl ?_
        refine v_get (v := .ref (g.1 + 1)) fa_X8_12 dX8_ends_54 rfl (by decide) (ltn rfl) rfl ?_
        refine v_get (v := .ref (g.1 + 4)) fa_X8_222 dX8_ends_57 rfl (by decide) (ltn rfl) rfl ?_
        refine v_iload_n dX8_ends_60 rfl 0 rfl ?_
        refine v_callVi (As := [.int (nI i)]) (rest := [.int ((va_up (mpG33 (cpL I 33 23) (plNC 63 (I 24) (I 25) (I 26) (I 31) pp (nsW I nl na) (I (ncell na) 0) (lessC 1000000) (I 5) (mgH23 I, I 28) i)) 42 fq) 5 (3 * i)), .ref (g.1 + 33)]) lk_X8_238 (c_second_4 (I := (va_up (mpG33 (cpL I 33 23) (plNC 63 (I 24) (I 25) (I 26) (I 31) pp (nsW I nl na) (I (ncell na) 0) (lessC 1000000) (I 5) (mgH23 I, I 28) i)) 42 fq)) i (by omega)) dX8_ends_61 rfl (ltn rfl) rfl rfl (Nat.le_of_ble_eq_true rfl) (by decide) ?_
        refine v_st (st2 := [.int (I 5 (3 * i + 1)), .int (nI wt), .ref (g.1 + 33)]) (by rw [← hwe]; rfl) ?_
        refine v_callVfv (As := [.int (nI wt), .int ((va_up (mpG33 (cpL I 33 23) (plNC 63 (I 24) (I 25) (I 26) (I 31) pp (nsW I nl na) (I (ncell na) 0) (lessC 1000000) (I 5) (mgH23 I, I 28) i)) 42 fq) 5 (3 * i + 1))]) (rest := []) lk_X8_241 (c_goPl (I := (va_up (mpG33 (cpL I 33 23) (plNC 63 (I 24) (I 25) (I 26) (I 31) pp (nsW I nl na) (I (ncell na) 0) (lessC 1000000) (I 5) (mgH23 I, I 28) i)) 42 fq)) pp wt (I 5 (3 * i + 1)) hwx hpp hpe hxm hsl (by rw [hsS]; exact hok) hY.1.1 hY.1.2 hY.2) dX8_ends_64 rfl (ltn rfl) rfl rfl (Nat.le_of_ble_eq_true rfl) (by decide) (fun fq11 => ?_)
        refine v_I (I2 := (va_up (mpG33 (cpL I 33 23) (plNC 63 (I 24) (I 25) (I 26) (I 31) pp (nsW I nl na) (I (ncell na) 0) (lessC 1000000) (I 5) (mgH23 I, I 28) (i + 1))) 42 fq11)) (by rw [mpG33_G, nsW_off hsS]; show va_up (mpG33 (cpL I 33 23) (plan1C 63 (I 24) (I 25) (I 26) (I 31) pp (nsW I nl na) (((va_up (mpG33 (cpL I 33 23) (plNC 63 (I 24) (I 25) (I 26) (I 31) pp (nsW I nl na) (I (ncell na) 0) (lessC 1000000) (I 5) (mgH23 I, I 28) i)) 42 fq)) (ncell na) 0) (lessC 1000000) (plNC 63 (I 24) (I 25) (I 26) (I 31) pp (nsW I nl na) (I (ncell na) 0) (lessC 1000000) (I 5) (mgH23 I, I 28) i) wt (tn (I 5 (3 * i + 1))))) 42 fq11 = _; rw [hsN]; show _ = va_up (mpG33 _ (plan1C _ _ _ _ _ _ _ _ _ (plNC 63 (I 24) (I 25) (I 26) (I 31) pp (nsW I nl na) (I (ncell na) 0) (lessC 1000000) (I 5) (mgH23 I, I 28) i) (tn (I 5 (3 * i))) (tn (I 5 (3 * i + 1))))) 42 _; rw [hwe, tn_nI (by omega)]) ?_
        refine v_inc (v := nI (i + 1)) (lv2 := [(2, .int (nI (i + 1))), (0, .ref (g.1 + 0)), (1, .int wz)]) dX8_ends_67 0 rfl (nx_inc rfl) (by decide) rfl ?_
        refine v_goto (tgt := 24) dX8_ends_70 (by decide) ?_
        exact ih _
    · -- wz gt 1
      have r12 : ¬ inr wz 2 := inr_gt (k := 1) (by omega) (Int32.not_le.mp h3)
      have h3n := Int32.not_le.mp h3
      refine v_iconst (v := (-1)) dX8_ends_9 (by decide) ?_
      exact v_iret hr dX8_ends_10 (⟨congrArg (fun z => some (Value.int z)) (by rw [ifc_f r12]), ⟨_, scC_self _⟩, rfl, ⟨_, rfl⟩, rfl, rfl⟩)
