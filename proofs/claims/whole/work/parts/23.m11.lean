/-! hours -/
abbrev ZH : Type := T3 × Int32
section
variable (ga kd vv gl rw : Nat → Int32) (pp : Nat) (ns : (Int32 → Int32) → Int32 → Int32) (fd : Int32) (less : Int32 → Int32)
noncomputable def goN (ho : Int32) (s : T3) : Nat → T3
  | 0 => s
  | i + 1 => go1 ga kd vv gl rw pp ns ho less (goN ho s i) i
noncomputable def hour1 (z : ZH) : ZH :=
  (ifc (0 < fd ∧ z.2 - z.2 / fd * fd = 0) ((goN ga kd vv gl rw pp ns less z.2 z.1 pp).1, cpn (fun j => (goN ga kd vv gl rw pp ns less z.2 z.1 pp).2.1 j &&& ((goN ga kd vv gl rw pp ns less z.2 z.1 pp).2.1 j - 1)) (goN ga kd vv gl rw pp ns less z.2 z.1 pp).2.1 pp, (goN ga kd vv gl rw pp ns less z.2 z.1 pp).2.2) (goN ga kd vv gl rw pp ns less z.2 z.1 pp), z.2 + 1)
noncomputable def hrN (z : ZH) : Nat → ZH
  | 0 => z
  | i + 1 => hour1 ga kd vv gl rw pp ns fd less (hrN z i)
end
/-- each is AT a cell -/
def okS (s : T3) : Prop := ∀ p, p < 6 → ∃ c, c < 16 ∧ s.1 p = nI c
def okG (gl : Nat → Int32) : Prop := ∀ p, p < 6 → gl p < 0 ∨ ∃ c, c < 16 ∧ gl p = nI c
section
variable {ga kd vv gl rw : Nat → Int32} {pp : Nat} {ns : (Int32 → Int32) → Int32 → Int32} {fd : Int32} {less : Int32 → Int32}
theorem go1_ok {ho : Int32} {s : T3} {p : Nat} (h : okS s) (hg : okG gl) (hp : p < 6) : okS (go1 ga kd vv gl rw pp ns ho less s p) := by
  obtain ⟨sz, hsz, hes⟩ := h p hp
  by_cases h1 : gl p < 0
  · rw [go1_a h1]; exact h
  · obtain ⟨gz, hgz, heg⟩ := (hg p hp).resolve_left h1
    by_cases h2 : gl p = s.1 p
    · rw [go1_b h2]; exact h
    · have hne : sz ≠ gz := fun e => h2 (by rw [heg, hes, e])
      by_cases h3 : lw (s.2.1 p) sz gz < 0
      · rw [go1_c hes heg hsz hgz h3]; exact h
      · by_cases h4 : 0 < Wl ga kd vv rw pp ns ho s.1 s.2.1 p (fstC (s.2.1 p) sz gz)
        · rw [go1_d hes heg hsz hgz hne h3 h4]
          intro q hq
          by_cases e : q = p
          · subst e; exact ⟨_, (fstC_lt hne h3).1, up_at _ _ _⟩
          · obtain ⟨c, hc, he⟩ := h q hq
            exact ⟨c, hc, (up_off _ _ e).trans he⟩
        · rw [go1_e hes heg hsz hgz hne h3 h4]; exact h
theorem goN_ok {ho : Int32} {s : T3} (h : okS s) (hg : okG gl) : ∀ i, i ≤ 6 → okS (goN ga kd vv gl rw pp ns less ho s i)
  | 0, _ => h
  | i + 1, hi => go1_ok (goN_ok h hg i (by omega)) hg (by omega)
theorem hour1_ok {z : ZH} (hpp : pp ≤ 6) (h : okS z.1) (hg : okG gl) : okS (hour1 ga kd vv gl rw pp ns fd less z).1 := by
  have h2 := goN_ok (ga := ga) (kd := kd) (vv := vv) (rw := rw) (pp := pp) (ns := ns) (less := less) (ho := z.2) h hg pp hpp
  show okS (ifc _ _ _)
  by_cases hc : 0 < fd ∧ z.2 - z.2 / fd * fd = 0
  · rw [ifc_t hc]; exact h2
  · rw [ifc_f hc]; exact h2
theorem hrN_ok {z : ZH} (hpp : pp ≤ 6) (h : okS z.1) (hg : okG gl) : ∀ i, okS (hrN ga kd vv gl rw pp ns fd less z i).1
  | 0 => h
  | i + 1 => hour1_ok hpp (hrN_ok hpp h hg i) hg
end
theorem hour1_t {ga kd vv gl rw : Nat → Int32} {pp : Nat} {ns : (Int32 → Int32) → Int32 → Int32} {fd : Int32} {less : Int32 → Int32} {z : ZH} (h : 0 < fd ∧ z.2 - z.2 / fd * fd = 0) : hour1 ga kd vv gl rw pp ns fd less z = (((goN ga kd vv gl rw pp ns less z.2 z.1 pp).1, cpn (fun j => (goN ga kd vv gl rw pp ns less z.2 z.1 pp).2.1 j &&& ((goN ga kd vv gl rw pp ns less z.2 z.1 pp).2.1 j - 1)) (goN ga kd vv gl rw pp ns less z.2 z.1 pp).2.1 pp, (goN ga kd vv gl rw pp ns less z.2 z.1 pp).2.2), z.2 + 1) := by
  show (ifc _ _ _, z.2 + 1) = _
  rw [ifc_t h]
theorem hour1_f {ga kd vv gl rw : Nat → Int32} {pp : Nat} {ns : (Int32 → Int32) → Int32 → Int32} {fd : Int32} {less : Int32 → Int32} {z : ZH} (h : ¬ (0 < fd ∧ z.2 - z.2 / fd * fd = 0)) : hour1 ga kd vv gl rw pp ns fd less z = (goN ga kd vv gl rw pp ns less z.2 z.1 pp, z.2 + 1) := by
  show (ifc _ _ _, z.2 + 1) = _
  rw [ifc_f h]
def mputH (I : Ty) (z : ZH) : Ty := va_up (mput I z.1) 65 (va_up (I 65) 1 z.2)
def mgetH (I : Ty) : ZH := (mget I, I 65 1)
theorem goes_norm (I : Ty) (f h f2 h2 : Nat → Int32) (s t : T3) : scr (mput (scr (mput I s) f h) t) f2 h2 = scr (mput I t) f2 h2 := by rw [mput_scr, mput_mput, scr_scr]
theorem mputH_of (I : Ty) (f h : Nat → Int32) (t : T3) (v : Int32) : va_up (scr (mput I t) f h) 65 (va_up (I 65) 1 v) = scr (mputH I (t, v)) f h := by
  unfold mputH scr
  funext j; unfold va_up
  by_cases h1 : j = 65
  · subst h1; rfl
  · simp [h1]
theorem mputH_self (I : Ty) : mputH I (mgetH I) = I := by
  show va_up (mput I (mget I)) 65 (va_up (I 65) 1 (I 65 1)) = I
  rw [mput_self, up_self, up_self]
theorem mputH_scr (I : Ty) (f h : Nat → Int32) (z : ZH) : mputH (scr I f h) z = scr (mputH I z) f h := by
  show va_up (mput (scr I f h) z.1) 65 (va_up (I 65) 1 z.2) = _
  rw [mput_scr]
  exact mputH_of I f h z.1 z.2
theorem mputH_mputH (I : Ty) (y z : ZH) : mputH (mputH I y) z = mputH I z := by
  unfold mputH mput
  funext j; unfold va_up
  by_cases h1 : j = 65
  · subst h1
    funext k
    by_cases h2 : k = 1
    · subst h2; rfl
    · simp [h2]
  · by_cases h2 : j = 72
    · subst h2; rfl
    · by_cases h3 : j = 71
      · subst h3; rfl
      · by_cases h4 : j = 69
        · subst h4; rfl
        · simp [h1, h2, h3, h4]
theorem mputH_norm (I : Ty) (f h f2 h2 : Nat → Int32) (y z : ZH) : scr (mputH (scr (mputH I y) f h) z) f2 h2 = scr (mputH I z) f2 h2 := by rw [mputH_scr, mputH_mputH, scr_scr]
theorem mput_ch (I : Ty) (f h : Nat → Int32) (t : T3) (a : Nat → Int32) : va_up (scr (mput I t) f h) 71 a = scr (mput I (t.1, a, t.2.2)) f h := by
  unfold mput scr
  funext j; unfold va_up
  by_cases h1 : j = 72
  · subst h1; rfl
  · by_cases h2 : j = 71
    · subst h2; rfl
    · by_cases h3 : j = 69
      · subst h3; rfl
      · simp [h1, h2, h3]
theorem cpn_at {α : Type} (f g : Nat → α) (i : Nat) : cpn f g i i = g i := if_neg (Nat.lt_irrefl i)
set_option maxRecDepth 100000 in
set_option maxHeartbeats 4000000 in
theorem c_X9_goHour {g : Gl} {I : Ty} {L : TL} {na nt ni m : Nat} {nl : Nat → Nat}  (pp : Nat) (hpp : pp ≤ 6) (hpe : I 65 0 = nI pp) (hN : mOK I) (hS : okS (mget I)) (hG : okG (I 70)) : Ct g yX9_goHour cX9_goHour 2 none 5 0 0 [.ref (g.1 + 65)] I L (RT na nt ni) (NT nl) (NB + m) (Pq none (mputH I (hour1 (I 66) (I 67) (I 68) (I 70) (I 73) pp (msum I) (mfade I) (lessM (I 65 29)) (mgetH I))) L (RT na nt ni) (NT nl) (NB + m)) := by
  refine ct_of (by decide +kernel) (Nat.le_of_ble_eq_true rfl) (fun F hnm hr => ?_)
  clear hnm
  show V g F cX9_goHour RX9 2 5 0 [(0, .ref (g.1 + 65))] [] I L (RT na nt ni) (NT nl) (NB + m) 0 0
  refine v_iconst (v := 0) dX9_goHour_0 (by decide) ?_
  refine v_istore_n (lv2 := [(1, .int 0), (0, .ref (g.1 + 65))]) dX9_goHour_1 rfl (by decide) rfl ?_
  refine v_lv (lv2 := [(1, .int (nI 0)), (0, .ref (g.1 + 65))]) (by rfl) ?_
  refine v_I (I2 := (scr (mput I (goN (I 66) (I 67) (I 68) (I 70) (I 73) pp (msum I) (lessM (I 65 29)) (I 65 1) (mget I) 0)) (I 83) (I 84))) (by show I = scr (mput I (mget I)) (I 83) (I 84); rw [mput_self]; exact scr_self I) ?_
  refine dloop (P := fun i => ∀ (fq hq : Nat → Int32), V g F cX9_goHour RX9 2 5 2 [(1, .int (nI i)), (0, .ref (g.1 + 65))] [] (scr (mput I (goN (I 66) (I 67) (I 68) (I 70) (I 73) pp (msum I) (lessM (I 65 29)) (I 65 1) (mget I) i)) fq hq) L (RT na nt ni) (NT nl) (NB + m) 0 0) pp ?_ ?_ 0 (Nat.zero_le _) (I 83) (I 84)
  · intro fq hq
    refine v_iload_n dX9_goHour_2 rfl 0 rfl ?_
    refine v_aload_n dX9_goHour_3 rfl 1 rfl ?_
    refine v_get (v := .int ((scr (mput I (goN (I 66) (I 67) (I 68) (I 70) (I 73) pp (msum I) (lessM (I 65 29)) (I 65 1) (mget I) pp)) fq hq) 65 0)) fa_X9_7 dX9_goHour_4 rfl (by decide) (ltn rfl) rfl ?_
    refine v_is (y := I 65 0) (by rfl) ?_
    refine v_is hpe ?_
    refine v_icmp_geN (a := pp) (b := pp) (tgt := 21) dX9_goHour_7 (by decide) rfl rfl (by omega) (by omega) (fun h1 => ?_) (fun h => by exfalso; omega)
    refine v_aload_n dX9_goHour_21 rfl 1 rfl ?_
    refine v_callVi (As := []) (rest := []) lk_X9_346 (c_X9_fade (I := (scr (mput I (goN (I 66) (I 67) (I 68) (I 70) (I 73) pp (msum I) (lessM (I 65 29)) (I 65 1) (mget I) pp)) fq hq)) hN) dX9_goHour_22 rfl (ltn rfl) rfl rfl (Nat.le_of_ble_eq_true rfl) (by decide) ?_
    refine v_is (y := mfade I) rfl ?_
    refine v_if_le (tgt := 73) dX9_goHour_25 (by decide) (fun h3 => ?_) (fun h3 => ?_)
    · have hfd : ¬ (0 < mfade I ∧ I 65 1 - I 65 1 / mfade I * mfade I = 0) := fun z => Int32.not_lt.mpr h3 z.1
      refine v_aload_n dX9_goHour_73 rfl 1 rfl ?_
      refine v_dup dX9_goHour_74 rfl ?_
      refine v_get (v := .int ((scr (mput I (goN (I 66) (I 67) (I 68) (I 70) (I 73) pp (msum I) (lessM (I 65 29)) (I 65 1) (mget I) pp)) fq hq) 65 1)) fa_X9_13 dX9_goHour_75 rfl (by decide) (ltn rfl) rfl ?_
      refine v_is (y := I 65 1) (by rfl) ?_
      refine v_iconst (v := 1) dX9_goHour_78 (by decide) ?_
      refine v_iadd dX9_goHour_79 ?_
      refine v_puti pa_X9_13 dX9_goHour_80 rfl (by decide) (ltn rfl) (by show 1 < 73; decide) rfl ?_
      exact v_vret hr dX9_goHour_83 (⟨rfl, ⟨fq, hq, (mputH_of I fq hq _ _).trans (congrArg (fun z => scr (mputH I z) fq hq) (hour1_f (z := mgetH I) hfd).symm)⟩, rfl, rfl, rfl, rfl⟩)
    · have hfp := Int32.not_le.mp h3
      have hf0 : ¬ mfade I = 0 := fun e => absurd (e ▸ hfp) (by decide)
      refine v_aload_n dX9_goHour_28 rfl 1 rfl ?_
      refine v_get (v := .int ((scr (mput I (goN (I 66) (I 67) (I 68) (I 70) (I 73) pp (msum I) (lessM (I 65 29)) (I 65 1) (mget I) pp)) fq hq) 65 1)) fa_X9_13 dX9_goHour_29 rfl (by decide) (ltn rfl) rfl ?_
      refine v_is (y := I 65 1) (by rfl) ?_
      refine v_aload_n dX9_goHour_32 rfl 1 rfl ?_
      refine v_callVi (As := []) (rest := [.int (I 65 1)]) lk_X9_346 (c_X9_fade (I := (scr (mput I (goN (I 66) (I 67) (I 68) (I 70) (I 73) pp (msum I) (lessM (I 65 29)) (I 65 1) (mget I) pp)) fq hq)) hN) dX9_goHour_33 rfl (ltn rfl) rfl rfl (Nat.le_of_ble_eq_true rfl) (by decide) ?_
      refine v_is (y := mfade I) rfl ?_
      refine v_irem dX9_goHour_36 hf0 ?_
      refine v_if_ne (tgt := 73) dX9_goHour_37 (by decide) (fun h5 => ?_) (fun h5 => ?_)
      · have hfd : ¬ (0 < mfade I ∧ I 65 1 - I 65 1 / mfade I * mfade I = 0) := fun z => h5 z.2
        refine v_aload_n dX9_goHour_73 rfl 1 rfl ?_
        refine v_dup dX9_goHour_74 rfl ?_
        refine v_get (v := .int ((scr (mput I (goN (I 66) (I 67) (I 68) (I 70) (I 73) pp (msum I) (lessM (I 65 29)) (I 65 1) (mget I) pp)) fq hq) 65 1)) fa_X9_13 dX9_goHour_75 rfl (by decide) (ltn rfl) rfl ?_
        refine v_is (y := I 65 1) (by rfl) ?_
        refine v_iconst (v := 1) dX9_goHour_78 (by decide) ?_
        refine v_iadd dX9_goHour_79 ?_
        refine v_puti pa_X9_13 dX9_goHour_80 rfl (by decide) (ltn rfl) (by show 1 < 73; decide) rfl ?_
        exact v_vret hr dX9_goHour_83 (⟨rfl, ⟨fq, hq, (mputH_of I fq hq _ _).trans (congrArg (fun z => scr (mputH I z) fq hq) (hour1_f (z := mgetH I) hfd).symm)⟩, rfl, rfl, rfl, rfl⟩)
      · have hfd : 0 < mfade I ∧ I 65 1 - I 65 1 / mfade I * mfade I = 0 := ⟨hfp, h5⟩
        refine v_iconst (v := 0) dX9_goHour_40 (by decide) ?_
        refine v_istore_n (lv2 := [(1, .int 0), (0, .ref (g.1 + 65))]) dX9_goHour_41 rfl (by decide) rfl ?_
        refine v_lv (lv2 := [(1, .int (nI 0)), (0, .ref (g.1 + 65))]) (by rfl) ?_
        refine v_I (I2 := (scr (mput I ((goN (I 66) (I 67) (I 68) (I 70) (I 73) pp (msum I) (lessM (I 65 29)) (I 65 1) (mget I) pp).1, cpn (fun j => (goN (I 66) (I 67) (I 68) (I 70) (I 73) pp (msum I) (lessM (I 65 29)) (I 65 1) (mget I) pp).2.1 j &&& ((goN (I 66) (I 67) (I 68) (I 70) (I 73) pp (msum I) (lessM (I 65 29)) (I 65 1) (mget I) pp).2.1 j - 1)) (goN (I 66) (I 67) (I 68) (I 70) (I 73) pp (msum I) (lessM (I 65 29)) (I 65 1) (mget I) pp).2.1 0, (goN (I 66) (I 67) (I 68) (I 70) (I 73) pp (msum I) (lessM (I 65 29)) (I 65 1) (mget I) pp).2.2)) fq hq)) (by rw [cpn_0]) ?_
        refine dloop (P := fun i => V g F cX9_goHour RX9 2 5 42 [(1, .int (nI i)), (0, .ref (g.1 + 65))] [] (scr (mput I ((goN (I 66) (I 67) (I 68) (I 70) (I 73) pp (msum I) (lessM (I 65 29)) (I 65 1) (mget I) pp).1, cpn (fun j => (goN (I 66) (I 67) (I 68) (I 70) (I 73) pp (msum I) (lessM (I 65 29)) (I 65 1) (mget I) pp).2.1 j &&& ((goN (I 66) (I 67) (I 68) (I 70) (I 73) pp (msum I) (lessM (I 65 29)) (I 65 1) (mget I) pp).2.1 j - 1)) (goN (I 66) (I 67) (I 68) (I 70) (I 73) pp (msum I) (lessM (I 65 29)) (I 65 1) (mget I) pp).2.1 i, (goN (I 66) (I 67) (I 68) (I 70) (I 73) pp (msum I) (lessM (I 65 29)) (I 65 1) (mget I) pp).2.2)) fq hq) L (RT na nt ni) (NT nl) (NB + m) 0 0) pp ?_ ?_ 0 (Nat.zero_le _)
        · refine v_iload_n dX9_goHour_42 rfl 0 rfl ?_
          refine v_aload_n dX9_goHour_43 rfl 1 rfl ?_
          refine v_get (v := .int ((scr (mput I ((goN (I 66) (I 67) (I 68) (I 70) (I 73) pp (msum I) (lessM (I 65 29)) (I 65 1) (mget I) pp).1, cpn (fun j => (goN (I 66) (I 67) (I 68) (I 70) (I 73) pp (msum I) (lessM (I 65 29)) (I 65 1) (mget I) pp).2.1 j &&& ((goN (I 66) (I 67) (I 68) (I 70) (I 73) pp (msum I) (lessM (I 65 29)) (I 65 1) (mget I) pp).2.1 j - 1)) (goN (I 66) (I 67) (I 68) (I 70) (I 73) pp (msum I) (lessM (I 65 29)) (I 65 1) (mget I) pp).2.1 pp, (goN (I 66) (I 67) (I 68) (I 70) (I 73) pp (msum I) (lessM (I 65 29)) (I 65 1) (mget I) pp).2.2)) fq hq) 65 0)) fa_X9_7 dX9_goHour_44 rfl (by decide) (ltn rfl) rfl ?_
          refine v_is (y := I 65 0) (by rfl) ?_
          refine v_is hpe ?_
          refine v_icmp_geN (a := pp) (b := pp) (tgt := 73) dX9_goHour_47 (by decide) rfl rfl (by omega) (by omega) (fun h6 => ?_) (fun h => by exfalso; omega)
          refine v_aload_n dX9_goHour_73 rfl 1 rfl ?_
          refine v_dup dX9_goHour_74 rfl ?_
          refine v_get (v := .int ((scr (mput I ((goN (I 66) (I 67) (I 68) (I 70) (I 73) pp (msum I) (lessM (I 65 29)) (I 65 1) (mget I) pp).1, cpn (fun j => (goN (I 66) (I 67) (I 68) (I 70) (I 73) pp (msum I) (lessM (I 65 29)) (I 65 1) (mget I) pp).2.1 j &&& ((goN (I 66) (I 67) (I 68) (I 70) (I 73) pp (msum I) (lessM (I 65 29)) (I 65 1) (mget I) pp).2.1 j - 1)) (goN (I 66) (I 67) (I 68) (I 70) (I 73) pp (msum I) (lessM (I 65 29)) (I 65 1) (mget I) pp).2.1 pp, (goN (I 66) (I 67) (I 68) (I 70) (I 73) pp (msum I) (lessM (I 65 29)) (I 65 1) (mget I) pp).2.2)) fq hq) 65 1)) fa_X9_13 dX9_goHour_75 rfl (by decide) (ltn rfl) rfl ?_
          refine v_is (y := I 65 1) (by rfl) ?_
          refine v_iconst (v := 1) dX9_goHour_78 (by decide) ?_
          refine v_iadd dX9_goHour_79 ?_
          refine v_puti pa_X9_13 dX9_goHour_80 rfl (by decide) (ltn rfl) (by show 1 < 73; decide) rfl ?_
          exact v_vret hr dX9_goHour_83 (⟨rfl, ⟨fq, hq, (mputH_of I fq hq _ _).trans (congrArg (fun z => scr (mputH I z) fq hq) (hour1_t (z := mgetH I) hfd).symm)⟩, rfl, rfl, rfl, rfl⟩)
        · intro i hi ih
          refine v_iload_n dX9_goHour_42 rfl 0 rfl ?_
          refine v_aload_n dX9_goHour_43 rfl 1 rfl ?_
          refine v_get (v := .int ((scr (mput I ((goN (I 66) (I 67) (I 68) (I 70) (I 73) pp (msum I) (lessM (I 65 29)) (I 65 1) (mget I) pp).1, cpn (fun j => (goN (I 66) (I 67) (I 68) (I 70) (I 73) pp (msum I) (lessM (I 65 29)) (I 65 1) (mget I) pp).2.1 j &&& ((goN (I 66) (I 67) (I 68) (I 70) (I 73) pp (msum I) (lessM (I 65 29)) (I 65 1) (mget I) pp).2.1 j - 1)) (goN (I 66) (I 67) (I 68) (I 70) (I 73) pp (msum I) (lessM (I 65 29)) (I 65 1) (mget I) pp).2.1 i, (goN (I 66) (I 67) (I 68) (I 70) (I 73) pp (msum I) (lessM (I 65 29)) (I 65 1) (mget I) pp).2.2)) fq hq) 65 0)) fa_X9_7 dX9_goHour_44 rfl (by decide) (ltn rfl) rfl ?_
          refine v_is (y := I 65 0) (by rfl) ?_
          refine v_is hpe ?_
          refine v_icmp_geN (a := i) (b := pp) (tgt := 73) dX9_goHour_47 (by decide) rfl rfl (by omega) (by omega) (fun h => by exfalso; omega) (fun h7 => ?_)
          refine v_aload_n dX9_goHour_50 rfl 1 rfl ?_
          refine v_get (v := .ref (g.1 + 71)) fa_X9_32 dX9_goHour_51 rfl (by decide) (ltn rfl) rfl ?_
          refine v_iload_n dX9_goHour_54 rfl 0 rfl ?_
          refine v_dup2 dX9_goHour_55 rfl rfl ?_
          refine v_iaload (len := 6) (j := i) dX9_goHour_56 rfl (ltn rfl) rfl (by decide) rfl (by omega) ?_
          refine v_is (y := ((goN (I 66) (I 67) (I 68) (I 70) (I 73) pp (msum I) (lessM (I 65 29)) (I 65 1) (mget I) pp).1, cpn (fun j => (goN (I 66) (I 67) (I 68) (I 70) (I 73) pp (msum I) (lessM (I 65 29)) (I 65 1) (mget I) pp).2.1 j &&& ((goN (I 66) (I 67) (I 68) (I 70) (I 73) pp (msum I) (lessM (I 65 29)) (I 65 1) (mget I) pp).2.1 j - 1)) (goN (I 66) (I 67) (I 68) (I 70) (I 73) pp (msum I) (lessM (I 65 29)) (I 65 1) (mget I) pp).2.1 i, (goN (I 66) (I 67) (I 68) (I 70) (I 73) pp (msum I) (lessM (I 65 29)) (I 65 1) (mget I) pp).2.2).2.1 i) (by rfl) ?_
          refine v_is (y := ((goN (I 66) (I 67) (I 68) (I 70) (I 73) pp (msum I) (lessM (I 65 29)) (I 65 1) (mget I) pp).2.1 i)) (by simp only [cpn_at]) ?_
          refine v_aload_n dX9_goHour_57 rfl 1 rfl ?_
          refine v_get (v := .ref (g.1 + 71)) fa_X9_32 dX9_goHour_58 rfl (by decide) (ltn rfl) rfl ?_
          refine v_iload_n dX9_goHour_61 rfl 0 rfl ?_
          refine v_iaload (len := 6) (j := i) dX9_goHour_62 rfl (ltn rfl) rfl (by decide) rfl (by omega) ?_
          refine v_is (y := ((goN (I 66) (I 67) (I 68) (I 70) (I 73) pp (msum I) (lessM (I 65 29)) (I 65 1) (mget I) pp).1, cpn (fun j => (goN (I 66) (I 67) (I 68) (I 70) (I 73) pp (msum I) (lessM (I 65 29)) (I 65 1) (mget I) pp).2.1 j &&& ((goN (I 66) (I 67) (I 68) (I 70) (I 73) pp (msum I) (lessM (I 65 29)) (I 65 1) (mget I) pp).2.1 j - 1)) (goN (I 66) (I 67) (I 68) (I 70) (I 73) pp (msum I) (lessM (I 65 29)) (I 65 1) (mget I) pp).2.1 i, (goN (I 66) (I 67) (I 68) (I 70) (I 73) pp (msum I) (lessM (I 65 29)) (I 65 1) (mget I) pp).2.2).2.1 i) (by rfl) ?_
          refine v_is (y := ((goN (I 66) (I 67) (I 68) (I 70) (I 73) pp (msum I) (lessM (I 65 29)) (I 65 1) (mget I) pp).2.1 i)) (by simp only [cpn_at]) ?_
          refine v_iconst (v := 1) dX9_goHour_63 (by decide) ?_
          refine v_isub dX9_goHour_64 ?_
          refine v_iand dX9_goHour_65 ?_
          refine v_iastore (len := 6) (j := i) dX9_goHour_66 rfl (ltn rfl) rfl (by decide) rfl (by omega) ?_
          refine v_inc (v := nI (i + 1)) (lv2 := [(1, .int (nI (i + 1))), (0, .ref (g.1 + 65))]) dX9_goHour_67 0 rfl (nx_inc rfl) (by decide) rfl ?_
          refine v_goto (tgt := 42) dX9_goHour_70 (by decide) ?_
          refine v_I (I2 := (scr (mput I ((goN (I 66) (I 67) (I 68) (I 70) (I 73) pp (msum I) (lessM (I 65 29)) (I 65 1) (mget I) pp).1, cpn (fun j => (goN (I 66) (I 67) (I 68) (I 70) (I 73) pp (msum I) (lessM (I 65 29)) (I 65 1) (mget I) pp).2.1 j &&& ((goN (I 66) (I 67) (I 68) (I 70) (I 73) pp (msum I) (lessM (I 65 29)) (I 65 1) (mget I) pp).2.1 j - 1)) (goN (I 66) (I 67) (I 68) (I 70) (I 73) pp (msum I) (lessM (I 65 29)) (I 65 1) (mget I) pp).2.1 (i + 1), (goN (I 66) (I 67) (I 68) (I 70) (I 73) pp (msum I) (lessM (I 65 29)) (I 65 1) (mget I) pp).2.2)) fq hq)) (by refine (mput_ch _ _ _ _ _).trans ?_; show scr (mput I (_, _, _)) fq hq = _; rw [← cpn_s]; rfl) ?_
          exact ih
  · intro i hi ih
    intro fq hq
    refine v_iload_n dX9_goHour_2 rfl 0 rfl ?_
    refine v_aload_n dX9_goHour_3 rfl 1 rfl ?_
    refine v_get (v := .int ((scr (mput I (goN (I 66) (I 67) (I 68) (I 70) (I 73) pp (msum I) (lessM (I 65 29)) (I 65 1) (mget I) i)) fq hq) 65 0)) fa_X9_7 dX9_goHour_4 rfl (by decide) (ltn rfl) rfl ?_
    refine v_is (y := I 65 0) (by rfl) ?_
    refine v_is hpe ?_
    refine v_icmp_geN (a := i) (b := pp) (tgt := 21) dX9_goHour_7 (by decide) rfl rfl (by omega) (by omega) (fun h => by exfalso; omega) (fun h8 => ?_)
    refine v_aload_n dX9_goHour_10 rfl 1 rfl ?_
    refine v_iload_n dX9_goHour_11 rfl 0 rfl ?_
    refine v_callVqv (As := [.int (nI i)]) (rest := []) lk_X9_343 (c_X9_goes (I := (scr (mput I (goN (I 66) (I 67) (I 68) (I 70) (I 73) pp (msum I) (lessM (I 65 29)) (I 65 1) (mget I) i)) fq hq)) i pp hpp hpe (by omega) hN (goN_ok hS hG i (by omega) i (by omega)) (hG i (by omega))) dX9_goHour_12 rfl (ltn rfl) rfl rfl (Nat.le_of_ble_eq_true rfl) (by decide) (fun fq9 hq10 => ?_)
    refine v_I (goes_norm _ _ _ _ _ _ _) ?_
    refine v_inc (v := nI (i + 1)) (lv2 := [(1, .int (nI (i + 1))), (0, .ref (g.1 + 65))]) dX9_goHour_15 0 rfl (nx_inc rfl) (by decide) rfl ?_
    refine v_goto (tgt := 2) dX9_goHour_18 (by decide) ?_
    exact ih _ _
set_option maxRecDepth 100000 in
set_option maxHeartbeats 4000000 in
theorem c_X9_goHours {g : Gl} {I : Ty} {L : TL} {na nt ni m : Nat} {nl : Nat → Nat} (nz : Nat) (hnz : nz ≤ 40) (pp : Nat) (hpp : pp ≤ 6) (hpe : I 65 0 = nI pp) (hN : mOK I) (hS : okS (mget I)) (hG : okG (I 70)) : Ct g yX9_goHours cX9_goHours 3 none 6 0 0 [.ref (g.1 + 65), .int (nI nz)] I L (RT na nt ni) (NT nl) (NB + m) (Pq none (mputH I (hrN (I 66) (I 67) (I 68) (I 70) (I 73) pp (msum I) (mfade I) (lessM (I 65 29)) (mgetH I) nz)) L (RT na nt ni) (NT nl) (NB + m)) := by
  refine ct_of (by decide +kernel) (Nat.le_of_ble_eq_true rfl) (fun F hnm hr => ?_)
  clear hnm
  show V g F cX9_goHours RX9 3 6 0 [(0, .ref (g.1 + 65)), (1, .int (nI nz))] [] I L (RT na nt ni) (NT nl) (NB + m) 0 0
  refine v_iconst (v := 0) dX9_goHours_0 (by decide) ?_
  refine v_istore_n (lv2 := [(2, .int 0), (0, .ref (g.1 + 65)), (1, .int (nI nz))]) dX9_goHours_1 rfl (by decide) rfl ?_
  refine v_lv (lv2 := [(2, .int (nI 0)), (0, .ref (g.1 + 65)), (1, .int (nI nz))]) (by rfl) ?_
  refine v_I (I2 := (scr (mputH I (hrN (I 66) (I 67) (I 68) (I 70) (I 73) pp (msum I) (mfade I) (lessM (I 65 29)) (mgetH I) 0)) (I 83) (I 84))) (by show I = scr (mputH I (mgetH I)) (I 83) (I 84); rw [mputH_self]; exact scr_self I) ?_
  refine dloop (P := fun i => ∀ (fq hq : Nat → Int32), V g F cX9_goHours RX9 3 6 2 [(2, .int (nI i)), (0, .ref (g.1 + 65)), (1, .int (nI nz))] [] (scr (mputH I (hrN (I 66) (I 67) (I 68) (I 70) (I 73) pp (msum I) (mfade I) (lessM (I 65 29)) (mgetH I) i)) fq hq) L (RT na nt ni) (NT nl) (NB + m) 0 0) nz ?_ ?_ 0 (Nat.zero_le _) (I 83) (I 84)
  · intro fq hq
    refine v_iload_n dX9_goHours_2 rfl 0 rfl ?_
    refine v_iload_n dX9_goHours_3 rfl 2 rfl ?_
    refine v_icmp_geN (a := nz) (b := nz) (tgt := 17) dX9_goHours_4 (by decide) rfl rfl (by omega) (by omega) (fun h1 => ?_) (fun h => by exfalso; omega)
    exact v_vret hr dX9_goHours_17 (⟨rfl, ⟨fq, hq, rfl⟩, rfl, rfl, rfl, rfl⟩)
  · intro i hi ih
    intro fq hq
    refine v_iload_n dX9_goHours_2 rfl 0 rfl ?_
    refine v_iload_n dX9_goHours_3 rfl 2 rfl ?_
    refine v_icmp_geN (a := i) (b := nz) (tgt := 17) dX9_goHours_4 (by decide) rfl rfl (by omega) (by omega) (fun h => by exfalso; omega) (fun h2 => ?_)
    refine v_aload_n dX9_goHours_7 rfl 1 rfl ?_
    refine v_callVqv (As := []) (rest := []) lk_X9_349 (c_X9_goHour (I := (scr (mputH I (hrN (I 66) (I 67) (I 68) (I 70) (I 73) pp (msum I) (mfade I) (lessM (I 65 29)) (mgetH I) i)) fq hq)) pp hpp hpe hN (hrN_ok (z := mgetH I) hpp hS hG i) hG) dX9_goHours_8 rfl (ltn rfl) rfl rfl (Nat.le_of_ble_eq_true rfl) (by decide) (fun fq3 hq4 => ?_)
    refine v_I (mputH_norm _ _ _ _ _ _ _) ?_
    refine v_inc (v := nI (i + 1)) (lv2 := [(2, .int (nI (i + 1))), (0, .ref (g.1 + 65)), (1, .int (nI nz))]) dX9_goHours_11 0 rfl (nx_inc rfl) (by decide) rfl ?_
    refine v_goto (tgt := 2) dX9_goHours_14 (by decide) ?_
    exact ih _ _
