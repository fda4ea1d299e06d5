section
variable (go : Int32) (ga kd vv gl rw : Nat → Int32) (pp : Nat) (ns : (Int32 → Int32) → Int32 → Int32) (fd : Int32) (less : Int32 → Int32)
/-- those go on whose bit is set -/
noncomputable def cgN (ho : Int32) (s : T3) : Nat → T3
  | 0 => s
  | i + 1 => ifc (hb go i) (go1 ga kd vv gl rw pp ns ho less (cgN ho s i) i) (cgN ho s i)
noncomputable def chr1 (z : ZH) : ZH :=
  (ifc (0 < fd ∧ z.2 - z.2 / fd * fd = 0) ((cgN go ga kd vv gl rw pp ns less z.2 z.1 pp).1, cpn (fun j => (cgN go ga kd vv gl rw pp ns less z.2 z.1 pp).2.1 j &&& ((cgN go ga kd vv gl rw pp ns less z.2 z.1 pp).2.1 j - 1)) (cgN go ga kd vv gl rw pp ns less z.2 z.1 pp).2.1 pp, (cgN go ga kd vv gl rw pp ns less z.2 z.1 pp).2.2) (cgN go ga kd vv gl rw pp ns less z.2 z.1 pp), z.2 + 1)
noncomputable def chrN (z : ZH) : Nat → ZH
  | 0 => z
  | i + 1 => chr1 go ga kd vv gl rw pp ns fd less (chrN z i)
end
section
variable {go : Int32} {ga kd vv gl rw : Nat → Int32} {pp : Nat} {ns : (Int32 → Int32) → Int32 → Int32} {fd : Int32} {less : Int32 → Int32}
theorem cgN_t {ho : Int32} {s : T3} {i : Nat} (h : hb go i) : cgN go ga kd vv gl rw pp ns less ho s (i + 1) = go1 ga kd vv gl rw pp ns ho less (cgN go ga kd vv gl rw pp ns less ho s i) i := ifc_t h
theorem cgN_f {ho : Int32} {s : T3} {i : Nat} (h : ¬ hb go i) : cgN go ga kd vv gl rw pp ns less ho s (i + 1) = cgN go ga kd vv gl rw pp ns less ho s i := ifc_f h
theorem chr1_t {z : ZH} (h : 0 < fd ∧ z.2 - z.2 / fd * fd = 0) : chr1 go ga kd vv gl rw pp ns fd less z = (((cgN go ga kd vv gl rw pp ns less z.2 z.1 pp).1, cpn (fun j => (cgN go ga kd vv gl rw pp ns less z.2 z.1 pp).2.1 j &&& ((cgN go ga kd vv gl rw pp ns less z.2 z.1 pp).2.1 j - 1)) (cgN go ga kd vv gl rw pp ns less z.2 z.1 pp).2.1 pp, (cgN go ga kd vv gl rw pp ns less z.2 z.1 pp).2.2), z.2 + 1) := by
  show (ifc _ _ _, z.2 + 1) = _
  rw [ifc_t h]
theorem chr1_f {z : ZH} (h : ¬ (0 < fd ∧ z.2 - z.2 / fd * fd = 0)) : chr1 go ga kd vv gl rw pp ns fd less z = (cgN go ga kd vv gl rw pp ns less z.2 z.1 pp, z.2 + 1) := by
  show (ifc _ _ _, z.2 + 1) = _
  rw [ifc_f h]
def okT (s : T3) : Prop := okS s ∧ ChOK s.2.1
theorem go1_okT {ho : Int32} {s : T3} {p : Nat} (h : okT s) (hg : okG gl) (hp : p < 6) : okT (go1 ga kd vv gl rw pp ns ho less s p) := by
  refine ⟨go1_ok h.1 hg hp, ?_⟩
  obtain ⟨sz, hsz, hes⟩ := h.1 p hp
  by_cases h1 : gl p < 0
  · rw [go1_a h1]; exact h.2
  · obtain ⟨gz, hgz, heg⟩ := (hg p hp).resolve_left h1
    by_cases h2 : gl p = s.1 p
    · rw [go1_b h2]; exact h.2
    · have hne : sz ≠ gz := fun e => h2 (by rw [heg, hes, e])
      by_cases h3 : lw (s.2.1 p) sz gz < 0
      · rw [go1_c hes heg hsz hgz h3]; exact h.2
      · by_cases h4 : 0 < Wl ga kd vv rw pp ns ho s.1 s.2.1 p (fstC (s.2.1 p) sz gz)
        · rw [go1_d hes heg hsz hgz hne h3 h4]; exact h.2
        · rw [go1_e hes heg hsz hgz hne h3 h4]
          intro q hq
          by_cases e : q = p
          · subst e
            show inr (va_up s.2.1 q _ q) 65536
            rw [up_at]; exact ch_or (h.2 q hq) (fstC_lt hne h3).1
          · show inr (va_up s.2.1 p _ q) 65536
            rw [up_off _ _ e]; exact h.2 q hq
theorem cgN_ok {ho : Int32} {s : T3} (h : okT s) (hg : okG gl) : ∀ i, i ≤ 6 → okT (cgN go ga kd vv gl rw pp ns less ho s i)
  | 0, _ => h
  | i + 1, hi => by
    by_cases q : hb go i
    · rw [cgN_t q]; exact go1_okT (cgN_ok h hg i (by omega)) hg (by omega)
    · rw [cgN_f q]; exact cgN_ok h hg i (by omega)
theorem chr1_ok {z : ZH} (hpp : pp ≤ 6) (h : okT z.1) (hg : okG gl) : okT (chr1 go ga kd vv gl rw pp ns fd less z).1 := by
  have h2 := cgN_ok (go := go) (ga := ga) (kd := kd) (vv := vv) (rw := rw) (pp := pp) (ns := ns) (less := less) (ho := z.2) h hg pp hpp
  by_cases hc : 0 < fd ∧ z.2 - z.2 / fd * fd = 0
  · rw [chr1_t hc]
    refine ⟨h2.1, fun q hq => ?_⟩
    show inr (cpn _ _ pp q) 65536
    unfold cpn
    split
    · exact ch_and (h2.2 q hq)
    · exact h2.2 q hq
  · rw [chr1_f hc]; exact h2
theorem chrN_ok {z : ZH} (hpp : pp ≤ 6) (h : okT z.1) (hg : okG gl) : ∀ i, okT (chrN go ga kd vv gl rw pp ns fd less z i).1
  | 0 => h
  | i + 1 => chr1_ok hpp (chrN_ok hpp h hg i) hg
end
theorem nsW_off {I I2 : Ty} {nl : Nat → Nat} {x : Nat} (h : I2 (scell x) = I (scell x)) : nsW I2 nl x = nsW I nl x := by unfold nsW; rw [h]
theorem St23_off {I : Ty} {z : ZH} {f : Nat → Int32} {k : Nat} (h : k = 21 ∨ k = 22 ∨ 116 ≤ k) : (va_up (mpH23 I z) 32 f) k = I k := by
  unfold mpH23 mpC23
  rw [up_off _ _ (by omega), up_off _ _ (by omega), up_off _ _ (by omega), up_off _ _ (by omega), up_off _ _ (by omega)]
theorem St23_n {I : Ty} {z : ZH} {f : Nat → Int32} {x : Nat} : (va_up (mpH23 I z) 32 f) (ncell x) = I (ncell x) := St23_off ((ncell_off x).imp id Or.inr)
theorem St23_s {I : Ty} {z : ZH} {f : Nat → Int32} {x : Nat} : (va_up (mpH23 I z) 32 f) (scell x) = I (scell x) := St23_off (Or.inr (scell_off x))
theorem St23_0 (I : Ty) : I = va_up (mpH23 I (mgH23 I)) 32 (I 32) := by
  show I = va_up (va_up (va_up (va_up (va_up I 27 (I 27)) 29 (I 29)) 30 (I 30)) 23 (va_up (I 23) 9 (I 23 9))) 32 (I 32)
  rw [up_self, up_self, up_self, up_self, up_self, up_self]
theorem St23_go (I : Ty) (z : ZH) (f f2 : Nat → Int32) (T : T3) : va_up (mpC23 (va_up (mpH23 I z) 32 f) T) 32 f2 = va_up (mpH23 I (T, z.2)) 32 f2 := by
  unfold mpH23 mpC23
  funext a
  by_cases h23 : a = 23
  · subst h23; first | rfl | (funext jz; by_cases h9 : jz = 9; (subst h9; rfl); simp [va_up, h9]; done)
  by_cases h27 : a = 27
  · subst h27; rfl
  by_cases h29 : a = 29
  · subst h29; rfl
  by_cases h30 : a = 30
  · subst h30; rfl
  by_cases h32 : a = 32
  · subst h32; rfl
  simp [h23, h27, h29, h30, h32, va_up]
theorem St23_ch (I : Ty) (z : ZH) (f r : Nat → Int32) : va_up (va_up (mpH23 I z) 32 f) 29 r = va_up (mpH23 I ((z.1.1, r, z.1.2.2), z.2)) 32 f := by
  unfold mpH23 mpC23
  funext a
  by_cases h23 : a = 23
  · subst h23; first | rfl | (funext jz; by_cases h9 : jz = 9; (subst h9; rfl); simp [va_up, h9]; done)
  by_cases h27 : a = 27
  · subst h27; rfl
  by_cases h29 : a = 29
  · subst h29; rfl
  by_cases h30 : a = 30
  · subst h30; rfl
  by_cases h32 : a = 32
  · subst h32; rfl
  simp [h23, h27, h29, h30, h32, va_up]
theorem St23_ho (I : Ty) (z : ZH) (f : Nat → Int32) (v : Int32) : wr (va_up (mpH23 I z) 32 f) 23 9 v = va_up (mpH23 I (z.1, v)) 32 f := by
  unfold mpH23 mpC23
  funext a
  by_cases h23 : a = 23
  · subst h23; first | rfl | (funext jz; by_cases h9 : jz = 9; (subst h9; rfl); simp [va_up, h9]; done)
  by_cases h27 : a = 27
  · subst h27; rfl
  by_cases h29 : a = 29
  · subst h29; rfl
  by_cases h30 : a = 30
  · subst h30; rfl
  by_cases h32 : a = 32
  · subst h32; rfl
  simp [h23, h27, h29, h30, h32, va_up]
set_option maxRecDepth 100000 in
set_option maxHeartbeats 4000000 in
theorem c_goHours_23 {g : Gl} {I : Ty} {L : TL} {na nt ni m : Nat} {nl : Nat → Nat} (nz : Nat) (mo : Int32) (pp : Nat) (hpp : pp ≤ 6) (hpe : I 23 1 = nI pp) (hnz : nz < 1000000) (hxm : 2 * na ≤ m) (hsl : sln nl na ≤ 100) (hok : okSt (I (scell na)) (sln nl na)) (hS : okS (mgC23 I)) (hch : ChOK (I 29)) (hG : okG (I 28)) : Ct g yX2_goHours cX2_goHours 5 none 4 0 0 [.ref (g.1 + 23), .int (nI nz), .int mo] I L (RT na nt ni) (NT nl) (NB + m) (Pfa 32 none (mpH23 I (chrN (I 23 11) (I 24) (I 25) (I 26) (I 28) (I 31) pp (nsW I nl na) (I (ncell na) 0) (lessC mo) (mgH23 I) nz)) L (RT na nt ni) (NT nl) (NB + m)) := by
  refine ct_of (by decide +kernel) (Nat.le_of_ble_eq_true rfl) (fun F hnm hr => ?_)
  clear hnm
  show V g F cX2_goHours RX2 5 4 0 [(0, .ref (g.1 + 23)), (1, .int (nI nz)), (2, .int mo)] [] I L (RT na nt ni) (NT nl) (NB + m) 0 0
  refine v_iconst (v := 0) dX2_goHours_0 (by decide) ?_
  refine v_istore_n (lv2 := [(3, .int 0), (0, .ref (g.1 + 23)), (1, .int (nI nz)), (2, .int mo)]) dX2_goHours_1 rfl (by decide) rfl ?_
  refine v_lv (lv2 := [(3, .int (nI 0)), (0, .ref (g.1 + 23)), (1, .int (nI nz)), (2, .int mo)]) (by rfl) ?_
  refine v_I (I2 := (va_up (mpH23 I (chrN (I 23 11) (I 24) (I 25) (I 26) (I 28) (I 31) pp (nsW I nl na) (I (ncell na) 0) (lessC mo) (mgH23 I) 0)) 32 (I 32))) (by exact St23_0 I) ?_
  refine dloop (P := fun i => ∀ (fq : Nat → Int32), V g F cX2_goHours RX2 5 4 2 [(3, .int (nI i)), (0, .ref (g.1 + 23)), (1, .int (nI nz)), (2, .int mo)] [] (va_up (mpH23 I (chrN (I 23 11) (I 24) (I 25) (I 26) (I 28) (I 31) pp (nsW I nl na) (I (ncell na) 0) (lessC mo) (mgH23 I) i)) 32 fq) L (RT na nt ni) (NT nl) (NB + m) 0 0) nz ?_ ?_ 0 (Nat.zero_le _) (I 32)
  · intro fq
    refine v_iload_n dX2_goHours_2 rfl 0 rfl ?_
    refine v_iload_n dX2_goHours_3 rfl 2 rfl ?_
    refine v_icmp_geN (a := nz) (b := nz) (tgt := 116) dX2_goHours_4 (by decide) rfl rfl (by omega) (by omega) (fun h1 => ?_) (fun h => by exfalso; omega)
    exact v_vret hr dX2_goHours_116 (⟨rfl, ⟨_, rfl⟩, rfl, rfl, rfl, rfl⟩)
  · intro i hi ih
    intro fq
    have hTi := chrN_ok (go := I 23 11) (ga := I 24) (kd := I 25) (vv := I 26) (gl := I 28) (rw := I 31) (pp := pp) (ns := nsW I nl na) (fd := (I (ncell na) 0)) (less := lessC mo) (z := mgH23 I) hpp ⟨hS, hch⟩ hG i
    refine v_iload_n dX2_goHours_2 rfl 0 rfl ?_
    refine v_iload_n dX2_goHours_3 rfl 2 rfl ?_
    refine v_icmp_geN (a := i) (b := nz) (tgt := 116) dX2_goHours_4 (by decide) rfl rfl (by omega) (by omega) (fun h => by exfalso; omega) (fun h2 => ?_)
    refine v_iconst (v := 0) dX2_goHours_7 (by decide) ?_
    refine v_istore (lv2 := [(4, .int 0), (3, .int (nI i)), (0, .ref (g.1 + 23)), (1, .int (nI nz)), (2, .int mo)]) dX2_goHours_8 (by decide) rfl ?_
    refine v_lv (lv2 := [(4, .int (nI 0)), (3, .int (nI i)), (0, .ref (g.1 + 23)), (1, .int (nI nz)), (2, .int mo)]) (by rfl) ?_
    refine v_I (I2 := (va_up (mpH23 I ((cgN (I 23 11) (I 24) (I 25) (I 26) (I 28) (I 31) pp (nsW I nl na) (lessC mo) (chrN (I 23 11) (I 24) (I 25) (I 26) (I 28) (I 31) pp (nsW I nl na) (I (ncell na) 0) (lessC mo) (mgH23 I) i).2 (chrN (I 23 11) (I 24) (I 25) (I 26) (I 28) (I 31) pp (nsW I nl na) (I (ncell na) 0) (lessC mo) (mgH23 I) i).1 0), (chrN (I 23 11) (I 24) (I 25) (I 26) (I 28) (I 31) pp (nsW I nl na) (I (ncell na) 0) (lessC mo) (mgH23 I) i).2)) 32 fq)) (by rfl) ?_
    refine dloop (P := fun j => ∀ (fq : Nat → Int32), V g F cX2_goHours RX2 5 4 10 [(4, .int (nI j)), (3, .int (nI i)), (0, .ref (g.1 + 23)), (1, .int (nI nz)), (2, .int mo)] [] (va_up (mpH23 I ((cgN (I 23 11) (I 24) (I 25) (I 26) (I 28) (I 31) pp (nsW I nl na) (lessC mo) (chrN (I 23 11) (I 24) (I 25) (I 26) (I 28) (I 31) pp (nsW I nl na) (I (ncell na) 0) (lessC mo) (mgH23 I) i).2 (chrN (I 23 11) (I 24) (I 25) (I 26) (I 28) (I 31) pp (nsW I nl na) (I (ncell na) 0) (lessC mo) (mgH23 I) i).1 j), (chrN (I 23 11) (I 24) (I 25) (I 26) (I 28) (I 31) pp (nsW I nl na) (I (ncell na) 0) (lessC mo) (mgH23 I) i).2)) 32 fq) L (RT na nt ni) (NT nl) (NB + m) 0 0) pp ?_ ?_ 0 (Nat.zero_le _) fq
    · intro fq
      refine v_iload dX2_goHours_10 0 rfl ?_
      refine v_aload_n dX2_goHours_12 rfl 2 rfl ?_
      refine v_get (v := .int ((va_up (mpH23 I ((cgN (I 23 11) (I 24) (I 25) (I 26) (I 28) (I 31) pp (nsW I nl na) (lessC mo) (chrN (I 23 11) (I 24) (I 25) (I 26) (I 28) (I 31) pp (nsW I nl na) (I (ncell na) 0) (lessC mo) (mgH23 I) i).2 (chrN (I 23 11) (I 24) (I 25) (I 26) (I 28) (I 31) pp (nsW I nl na) (I (ncell na) 0) (lessC mo) (mgH23 I) i).1 pp), (chrN (I 23 11) (I 24) (I 25) (I 26) (I 28) (I 31) pp (nsW I nl na) (I (ncell na) 0) (lessC mo) (mgH23 I) i).2)) 32 fq) 23 1)) fa_X2_53 dX2_goHours_13 rfl (by decide) (ltn rfl) rfl ?_
      refine v_is (y := nI pp) (by exact hpe) ?_
      refine v_icmp_geN (a := pp) (b := pp) (tgt := 71) dX2_goHours_16 (by decide) rfl rfl (by omega) (by omega) (fun h3 => ?_) (fun h => by exfalso; omega)
      refine v_aload_n dX2_goHours_71 rfl 2 rfl ?_
      refine v_get (v := .ref (g.1 + (ncell na))) fa_X2_45 dX2_goHours_72 rfl (by decide) (ltn rfl) rfl ?_
      refine v_get (v := .int ((va_up (mpH23 I ((cgN (I 23 11) (I 24) (I 25) (I 26) (I 28) (I 31) pp (nsW I nl na) (lessC mo) (chrN (I 23 11) (I 24) (I 25) (I 26) (I 28) (I 31) pp (nsW I nl na) (I (ncell na) 0) (lessC mo) (mgH23 I) i).2 (chrN (I 23 11) (I 24) (I 25) (I 26) (I 28) (I 31) pp (nsW I nl na) (I (ncell na) 0) (lessC mo) (mgH23 I) i).1 pp), (chrN (I 23 11) (I 24) (I 25) (I 26) (I 28) (I 31) pp (nsW I nl na) (I (ncell na) 0) (lessC mo) (mgH23 I) i).2)) 32 fq) (ncell na) 0)) fa_X2_87 dX2_goHours_75 (kd_nc na) (by decide) (lt_nc hxm) rfl ?_
      refine v_is (y := I (ncell na) 0) (by exact congrFun St23_n _) ?_
      refine v_if_le (tgt := 100) dX2_goHours_78 (by decide) (fun h5 => ?_) (fun h5 => ?_)
      · have hfd : ¬ (0 < (I (ncell na) 0) ∧ (chrN (I 23 11) (I 24) (I 25) (I 26) (I 28) (I 31) pp (nsW I nl na) (I (ncell na) 0) (lessC mo) (mgH23 I) i).2 - (chrN (I 23 11) (I 24) (I 25) (I 26) (I 28) (I 31) pp (nsW I nl na) (I (ncell na) 0) (lessC mo) (mgH23 I) i).2 / (I (ncell na) 0) * (I (ncell na) 0) = 0) := fun z => Int32.not_lt.mpr h5 z.1
        refine v_aload_n dX2_goHours_100 rfl 2 rfl ?_
        refine v_dup dX2_goHours_101 rfl ?_
        refine v_get (v := .int ((va_up (mpH23 I ((cgN (I 23 11) (I 24) (I 25) (I 26) (I 28) (I 31) pp (nsW I nl na) (lessC mo) (chrN (I 23 11) (I 24) (I 25) (I 26) (I 28) (I 31) pp (nsW I nl na) (I (ncell na) 0) (lessC mo) (mgH23 I) i).2 (chrN (I 23 11) (I 24) (I 25) (I 26) (I 28) (I 31) pp (nsW I nl na) (I (ncell na) 0) (lessC mo) (mgH23 I) i).1 pp), (chrN (I 23 11) (I 24) (I 25) (I 26) (I 28) (I 31) pp (nsW I nl na) (I (ncell na) 0) (lessC mo) (mgH23 I) i).2)) 32 fq) 23 9)) fa_X2_62 dX2_goHours_102 rfl (by decide) (ltn rfl) rfl ?_
        refine v_is (y := (chrN (I 23 11) (I 24) (I 25) (I 26) (I 28) (I 31) pp (nsW I nl na) (I (ncell na) 0) (lessC mo) (mgH23 I) i).2) (by rfl) ?_
        refine v_iconst (v := 1) dX2_goHours_105 (by decide) ?_
        refine v_iadd dX2_goHours_106 ?_
        refine v_puti pa_X2_62 dX2_goHours_107 rfl (by decide) (ltn rfl) (by show 9 < 13; decide) rfl ?_
        refine v_inc (v := nI (i + 1)) (lv2 := [(3, .int (nI (i + 1))), (4, .int (nI pp)), (0, .ref (g.1 + 23)), (1, .int (nI nz)), (2, .int mo)]) dX2_goHours_110 1 rfl (nx_inc rfl) (by decide) rfl ?_
        refine v_goto (tgt := 2) dX2_goHours_113 (by decide) ?_
        refine v_sub (lv2 := [(3, .int (nI (i + 1))), (0, .ref (g.1 + 23)), (1, .int (nI nz)), (2, .int mo)]) [0, 2, 3, 4] rfl ?_
        refine v_I (I2 := (va_up (mpH23 I (chrN (I 23 11) (I 24) (I 25) (I 26) (I 28) (I 31) pp (nsW I nl na) (I (ncell na) 0) (lessC mo) (mgH23 I) (i + 1))) 32 fq)) (by exact (St23_ho _ _ _ _).trans (congrArg (fun q => va_up (mpH23 I q) 32 fq) (chr1_f (z := (chrN (I 23 11) (I 24) (I 25) (I 26) (I 28) (I 31) pp (nsW I nl na) (I (ncell na) 0) (lessC mo) (mgH23 I) i)) hfd).symm)) ?_
        exact ih _
      · have hfp := Int32.not_le.mp h5
        have hf0 : ¬ (I (ncell na) 0) = 0 := fun e => absurd (e ▸ hfp) (by decide)
        refine v_aload_n dX2_goHours_81 rfl 2 rfl ?_
        refine v_get (v := .int ((va_up (mpH23 I ((cgN (I 23 11) (I 24) (I 25) (I 26) (I 28) (I 31) pp (nsW I nl na) (lessC mo) (chrN (I 23 11) (I 24) (I 25) (I 26) (I 28) (I 31) pp (nsW I nl na) (I (ncell na) 0) (lessC mo) (mgH23 I) i).2 (chrN (I 23 11) (I 24) (I 25) (I 26) (I 28) (I 31) pp (nsW I nl na) (I (ncell na) 0) (lessC mo) (mgH23 I) i).1 pp), (chrN (I 23 11) (I 24) (I 25) (I 26) (I 28) (I 31) pp (nsW I nl na) (I (ncell na) 0) (lessC mo) (mgH23 I) i).2)) 32 fq) 23 9)) fa_X2_62 dX2_goHours_82 rfl (by decide) (ltn rfl) rfl ?_
        refine v_is (y := (chrN (I 23 11) (I 24) (I 25) (I 26) (I 28) (I 31) pp (nsW I nl na) (I (ncell na) 0) (lessC mo) (mgH23 I) i).2) (by rfl) ?_
        refine v_aload_n dX2_goHours_85 rfl 2 rfl ?_
        refine v_get (v := .ref (g.1 + (ncell na))) fa_X2_45 dX2_goHours_86 rfl (by decide) (ltn rfl) rfl ?_
        refine v_get (v := .int ((va_up (mpH23 I ((cgN (I 23 11) (I 24) (I 25) (I 26) (I 28) (I 31) pp (nsW I nl na) (lessC mo) (chrN (I 23 11) (I 24) (I 25) (I 26) (I 28) (I 31) pp (nsW I nl na) (I (ncell na) 0) (lessC mo) (mgH23 I) i).2 (chrN (I 23 11) (I 24) (I 25) (I 26) (I 28) (I 31) pp (nsW I nl na) (I (ncell na) 0) (lessC mo) (mgH23 I) i).1 pp), (chrN (I 23 11) (I 24) (I 25) (I 26) (I 28) (I 31) pp (nsW I nl na) (I (ncell na) 0) (lessC mo) (mgH23 I) i).2)) 32 fq) (ncell na) 0)) fa_X2_87 dX2_goHours_89 (kd_nc na) (by decide) (lt_nc hxm) rfl ?_
        refine v_is (y := I (ncell na) 0) (by exact congrFun St23_n _) ?_
        refine v_irem dX2_goHours_92 hf0 ?_
        refine v_if_ne (tgt := 100) dX2_goHours_93 (by decide) (fun h7 => ?_) (fun h7 => ?_)
        · have hfd : ¬ (0 < (I (ncell na) 0) ∧ (chrN (I 23 11) (I 24) (I 25) (I 26) (I 28) (I 31) pp (nsW I nl na) (I (ncell na) 0) (lessC mo) (mgH23 I) i).2 - (chrN (I 23 11) (I 24) (I 25) (I 26) (I 28) (I 31) pp (nsW I nl na) (I (ncell na) 0) (lessC mo) (mgH23 I) i).2 / (I (ncell na) 0) * (I (ncell na) 0) = 0) := fun z => h7 z.2
          refine v_aload_n dX2_goHours_100 rfl 2 rfl ?_
          refine v_dup dX2_goHours_101 rfl ?_
          refine v_get (v := .int ((va_up (mpH23 I ((cgN (I 23 11) (I 24) (I 25) (I 26) (I 28) (I 31) pp (nsW I nl na) (lessC mo) (chrN (I 23 11) (I 24) (I 25) (I 26) (I 28) (I 31) pp (nsW I nl na) (I (ncell na) 0) (lessC mo) (mgH23 I) i).2 (chrN (I 23 11) (I 24) (I 25) (I 26) (I 28) (I 31) pp (nsW I nl na) (I (ncell na) 0) (lessC mo) (mgH23 I) i).1 pp), (chrN (I 23 11) (I 24) (I 25) (I 26) (I 28) (I 31) pp (nsW I nl na) (I (ncell na) 0) (lessC mo) (mgH23 I) i).2)) 32 fq) 23 9)) fa_X2_62 dX2_goHours_102 rfl (by decide) (ltn rfl) rfl ?_
          refine v_is (y := (chrN (I 23 11) (I 24) (I 25) (I 26) (I 28) (I 31) pp (nsW I nl na) (I (ncell na) 0) (lessC mo) (mgH23 I) i).2) (by rfl) ?_
          refine v_iconst (v := 1) dX2_goHours_105 (by decide) ?_
          refine v_iadd dX2_goHours_106 ?_
          refine v_puti pa_X2_62 dX2_goHours_107 rfl (by decide) (ltn rfl) (by show 9 < 13; decide) rfl ?_
          refine v_inc (v := nI (i + 1)) (lv2 := [(3, .int (nI (i + 1))), (4, .int (nI pp)), (0, .ref (g.1 + 23)), (1, .int (nI nz)), (2, .int mo)]) dX2_goHours_110 1 rfl (nx_inc rfl) (by decide) rfl ?_
          refine v_goto (tgt := 2) dX2_goHours_113 (by decide) ?_
          refine v_sub (lv2 := [(3, .int (nI (i + 1))), (0, .ref (g.1 + 23)), (1, .int (nI nz)), (2, .int mo)]) [0, 2, 3, 4] rfl ?_
          refine v_I (I2 := (va_up (mpH23 I (chrN (I 23 11) (I 24) (I 25) (I 26) (I 28) (I 31) pp (nsW I nl na) (I (ncell na) 0) (lessC mo) (mgH23 I) (i + 1))) 32 fq)) (by exact (St23_ho _ _ _ _).trans (congrArg (fun q => va_up (mpH23 I q) 32 fq) (chr1_f (z := (chrN (I 23 11) (I 24) (I 25) (I 26) (I 28) (I 31) pp (nsW I nl na) (I (ncell na) 0) (lessC mo) (mgH23 I) i)) hfd).symm)) ?_
          exact ih _
        · have hfd : (0 < (I (ncell na) 0) ∧ (chrN (I 23 11) (I 24) (I 25) (I 26) (I 28) (I 31) pp (nsW I nl na) (I (ncell na) 0) (lessC mo) (mgH23 I) i).2 - (chrN (I 23 11) (I 24) (I 25) (I 26) (I 28) (I 31) pp (nsW I nl na) (I (ncell na) 0) (lessC mo) (mgH23 I) i).2 / (I (ncell na) 0) * (I (ncell na) 0) = 0) := ⟨hfp, h7⟩
          refine v_aload_n dX2_goHours_96 rfl 2 rfl ?_
          refine v_callVv (As := []) (rest := []) lk_X2_90 (c_fade_23 (I := (va_up (mpH23 I ((cgN (I 23 11) (I 24) (I 25) (I 26) (I 28) (I 31) pp (nsW I nl na) (lessC mo) (chrN (I 23 11) (I 24) (I 25) (I 26) (I 28) (I 31) pp (nsW I nl na) (I (ncell na) 0) (lessC mo) (mgH23 I) i).2 (chrN (I 23 11) (I 24) (I 25) (I 26) (I 28) (I 31) pp (nsW I nl na) (I (ncell na) 0) (lessC mo) (mgH23 I) i).1 pp), (chrN (I 23 11) (I 24) (I 25) (I 26) (I 28) (I 31) pp (nsW I nl na) (I (ncell na) 0) (lessC mo) (mgH23 I) i).2)) 32 fq)) pp hpp hpe) dX2_goHours_97 rfl (ltn rfl) rfl rfl (Nat.le_of_ble_eq_true rfl) (by decide) ?_
          refine v_I (I2 := (va_up (mpH23 I (((cgN (I 23 11) (I 24) (I 25) (I 26) (I 28) (I 31) pp (nsW I nl na) (lessC mo) (chrN (I 23 11) (I 24) (I 25) (I 26) (I 28) (I 31) pp (nsW I nl na) (I (ncell na) 0) (lessC mo) (mgH23 I) i).2 (chrN (I 23 11) (I 24) (I 25) (I 26) (I 28) (I 31) pp (nsW I nl na) (I (ncell na) 0) (lessC mo) (mgH23 I) i).1 pp).1, cpn (fun j => (cgN (I 23 11) (I 24) (I 25) (I 26) (I 28) (I 31) pp (nsW I nl na) (lessC mo) (chrN (I 23 11) (I 24) (I 25) (I 26) (I 28) (I 31) pp (nsW I nl na) (I (ncell na) 0) (lessC mo) (mgH23 I) i).2 (chrN (I 23 11) (I 24) (I 25) (I 26) (I 28) (I 31) pp (nsW I nl na) (I (ncell na) 0) (lessC mo) (mgH23 I) i).1 pp).2.1 j &&& ((cgN (I 23 11) (I 24) (I 25) (I 26) (I 28) (I 31) pp (nsW I nl na) (lessC mo) (chrN (I 23 11) (I 24) (I 25) (I 26) (I 28) (I 31) pp (nsW I nl na) (I (ncell na) 0) (lessC mo) (mgH23 I) i).2 (chrN (I 23 11) (I 24) (I 25) (I 26) (I 28) (I 31) pp (nsW I nl na) (I (ncell na) 0) (lessC mo) (mgH23 I) i).1 pp).2.1 j - 1)) (cgN (I 23 11) (I 24) (I 25) (I 26) (I 28) (I 31) pp (nsW I nl na) (lessC mo) (chrN (I 23 11) (I 24) (I 25) (I 26) (I 28) (I 31) pp (nsW I nl na) (I (ncell na) 0) (lessC mo) (mgH23 I) i).2 (chrN (I 23 11) (I 24) (I 25) (I 26) (I 28) (I 31) pp (nsW I nl na) (I (ncell na) 0) (lessC mo) (mgH23 I) i).1 pp).2.1 pp, (cgN (I 23 11) (I 24) (I 25) (I 26) (I 28) (I 31) pp (nsW I nl na) (lessC mo) (chrN (I 23 11) (I 24) (I 25) (I 26) (I 28) (I 31) pp (nsW I nl na) (I (ncell na) 0) (lessC mo) (mgH23 I) i).2 (chrN (I 23 11) (I 24) (I 25) (I 26) (I 28) (I 31) pp (nsW I nl na) (I (ncell na) 0) (lessC mo) (mgH23 I) i).1 pp).2.2), (chrN (I 23 11) (I 24) (I 25) (I 26) (I 28) (I 31) pp (nsW I nl na) (I (ncell na) 0) (lessC mo) (mgH23 I) i).2)) 32 fq)) (St23_ch _ _ _ _) ?_
          refine v_aload_n dX2_goHours_100 rfl 2 rfl ?_
          refine v_dup dX2_goHours_101 rfl ?_
          refine v_get (v := .int ((va_up (mpH23 I (((cgN (I 23 11) (I 24) (I 25) (I 26) (I 28) (I 31) pp (nsW I nl na) (lessC mo) (chrN (I 23 11) (I 24) (I 25) (I 26) (I 28) (I 31) pp (nsW I nl na) (I (ncell na) 0) (lessC mo) (mgH23 I) i).2 (chrN (I 23 11) (I 24) (I 25) (I 26) (I 28) (I 31) pp (nsW I nl na) (I (ncell na) 0) (lessC mo) (mgH23 I) i).1 pp).1, cpn (fun j => (cgN (I 23 11) (I 24) (I 25) (I 26) (I 28) (I 31) pp (nsW I nl na) (lessC mo) (chrN (I 23 11) (I 24) (I 25) (I 26) (I 28) (I 31) pp (nsW I nl na) (I (ncell na) 0) (lessC mo) (mgH23 I) i).2 (chrN (I 23 11) (I 24) (I 25) (I 26) (I 28) (I 31) pp (nsW I nl na) (I (ncell na) 0) (lessC mo) (mgH23 I) i).1 pp).2.1 j &&& ((cgN (I 23 11) (I 24) (I 25) (I 26) (I 28) (I 31) pp (nsW I nl na) (lessC mo) (chrN (I 23 11) (I 24) (I 25) (I 26) (I 28) (I 31) pp (nsW I nl na) (I (ncell na) 0) (lessC mo) (mgH23 I) i).2 (chrN (I 23 11) (I 24) (I 25) (I 26) (I 28) (I 31) pp (nsW I nl na) (I (ncell na) 0) (lessC mo) (mgH23 I) i).1 pp).2.1 j - 1)) (cgN (I 23 11) (I 24) (I 25) (I 26) (I 28) (I 31) pp (nsW I nl na) (lessC mo) (chrN (I 23 11) (I 24) (I 25) (I 26) (I 28) (I 31) pp (nsW I nl na) (I (ncell na) 0) (lessC mo) (mgH23 I) i).2 (chrN (I 23 11) (I 24) (I 25) (I 26) (I 28) (I 31) pp (nsW I nl na) (I (ncell na) 0) (lessC mo) (mgH23 I) i).1 pp).2.1 pp, (cgN (I 23 11) (I 24) (I 25) (I 26) (I 28) (I 31) pp (nsW I nl na) (lessC mo) (chrN (I 23 11) (I 24) (I 25) (I 26) (I 28) (I 31) pp (nsW I nl na) (I (ncell na) 0) (lessC mo) (mgH23 I) i).2 (chrN (I 23 11) (I 24) (I 25) (I 26) (I 28) (I 31) pp (nsW I nl na) (I (ncell na) 0) (lessC mo) (mgH23 I) i).1 pp).2.2), (chrN (I 23 11) (I 24) (I 25) (I 26) (I 28) (I 31) pp (nsW I nl na) (I (ncell na) 0) (lessC mo) (mgH23 I) i).2)) 32 fq) 23 9)) fa_X2_62 dX2_goHours_102 rfl (by decide) (ltn rfl) rfl ?_
          refine v_is (y := (chrN (I 23 11) (I 24) (I 25) (I 26) (I 28) (I 31) pp (nsW I nl na) (I (ncell na) 0) (lessC mo) (mgH23 I) i).2) (by rfl) ?_
          refine v_iconst (v := 1) dX2_goHours_105 (by decide) ?_
          refine v_iadd dX2_goHours_106 ?_
          refine v_puti pa_X2_62 dX2_goHours_107 rfl (by decide) (ltn rfl) (by show 9 < 13; decide) rfl ?_
          refine v_inc (v := nI (i + 1)) (lv2 := [(3, .int (nI (i + 1))), (4, .int (nI pp)), (0, .ref (g.1 + 23)), (1, .int (nI nz)), (2, .int mo)]) dX2_goHours_110 1 rfl (nx_inc rfl) (by decide) rfl ?_
          refine v_goto (tgt := 2) dX2_goHours_113 (by decide) ?_
          refine v_sub (lv2 := [(3, .int (nI (i + 1))), (0, .ref (g.1 + 23)), (1, .int (nI nz)), (2, .int mo)]) [0, 2, 3, 4] rfl ?_
          refine v_I (I2 := (va_up (mpH23 I (chrN (I 23 11) (I 24) (I 25) (I 26) (I 28) (I 31) pp (nsW I nl na) (I (ncell na) 0) (lessC mo) (mgH23 I) (i + 1))) 32 fq)) (by exact (St23_ho _ _ _ _).trans (congrArg (fun q => va_up (mpH23 I q) 32 fq) (chr1_t (z := (chrN (I 23 11) (I 24) (I 25) (I 26) (I 28) (I 31) pp (nsW I nl na) (I (ncell na) 0) (lessC mo) (mgH23 I) i)) hfd).symm)) ?_
          exact ih _
    · intro j hi ih
      intro fq
      have hTj := cgN_ok (go := I 23 11) (ga := I 24) (kd := I 25) (vv := I 26) (gl := I 28) (rw := I 31) (pp := pp) (ns := nsW I nl na) (less := lessC mo) (ho := (chrN (I 23 11) (I 24) (I 25) (I 26) (I 28) (I 31) pp (nsW I nl na) (I (ncell na) 0) (lessC mo) (mgH23 I) i).2) hTi hG j (by omega)
      refine v_iload dX2_goHours_10 0 rfl ?_
      refine v_aload_n dX2_goHours_12 rfl 2 rfl ?_
      refine v_get (v := .int ((va_up (mpH23 I ((cgN (I 23 11) (I 24) (I 25) (I 26) (I 28) (I 31) pp (nsW I nl na) (lessC mo) (chrN (I 23 11) (I 24) (I 25) (I 26) (I 28) (I 31) pp (nsW I nl na) (I (ncell na) 0) (lessC mo) (mgH23 I) i).2 (chrN (I 23 11) (I 24) (I 25) (I 26) (I 28) (I 31) pp (nsW I nl na) (I (ncell na) 0) (lessC mo) (mgH23 I) i).1 j), (chrN (I 23 11) (I 24) (I 25) (I 26) (I 28) (I 31) pp (nsW I nl na) (I (ncell na) 0) (lessC mo) (mgH23 I) i).2)) 32 fq) 23 1)) fa_X2_53 dX2_goHours_13 rfl (by decide) (ltn rfl) rfl ?_
      refine v_is (y := nI pp) (by exact hpe) ?_
      refine v_icmp_geN (a := j) (b := pp) (tgt := 71) dX2_goHours_16 (by decide) rfl rfl (by omega) (by omega) (fun h => by exfalso; omega) (fun h8 => ?_)
      refine v_aload_n dX2_goHours_19 rfl 2 rfl ?_
      refine v_get (v := .int ((va_up (mpH23 I ((cgN (I 23 11) (I 24) (I 25) (I 26) (I 28) (I 31) pp (nsW I nl na) (lessC mo) (chrN (I 23 11) (I 24) (I 25) (I 26) (I 28) (I 31) pp (nsW I nl na) (I (ncell na) 0) (lessC mo) (mgH23 I) i).2 (chrN (I 23 11) (I 24) (I 25) (I 26) (I 28) (I 31) pp (nsW I nl na) (I (ncell na) 0) (lessC mo) (mgH23 I) i).1 j), (chrN (I 23 11) (I 24) (I 25) (I 26) (I 28) (I 31) pp (nsW I nl na) (I (ncell na) 0) (lessC mo) (mgH23 I) i).2)) 32 fq) 23 11)) fa_X2_36 dX2_goHours_20 rfl (by decide) (ltn rfl) rfl ?_
      refine v_is (y := I 23 11) (by rfl) ?_
      refine v_iload dX2_goHours_23 0 rfl ?_
      refine v_ishr dX2_goHours_25 ?_
      refine v_iconst (v := 1) dX2_goHours_26 (by decide) ?_
      refine v_iand dX2_goHours_27 ?_
      refine v_if_eq (tgt := 65) dX2_goHours_28 (by decide) (fun h10 => ?_) (fun h10 => ?_)
      · refine v_inc (v := nI (j + 1)) (lv2 := [(4, .int (nI (j + 1))), (3, .int (nI i)), (0, .ref (g.1 + 23)), (1, .int (nI nz)), (2, .int mo)]) dX2_goHours_65 0 rfl (nx_inc rfl) (by decide) rfl ?_
        refine v_goto (tgt := 10) dX2_goHours_68 (by decide) ?_
        refine v_I (I2 := (va_up (mpH23 I ((cgN (I 23 11) (I 24) (I 25) (I 26) (I 28) (I 31) pp (nsW I nl na) (lessC mo) (chrN (I 23 11) (I 24) (I 25) (I 26) (I 28) (I 31) pp (nsW I nl na) (I (ncell na) 0) (lessC mo) (mgH23 I) i).2 (chrN (I 23 11) (I 24) (I 25) (I 26) (I 28) (I 31) pp (nsW I nl na) (I (ncell na) 0) (lessC mo) (mgH23 I) i).1 (j + 1)), (chrN (I 23 11) (I 24) (I 25) (I 26) (I 28) (I 31) pp (nsW I nl na) (I (ncell na) 0) (lessC mo) (mgH23 I) i).2)) 32 fq)) (by rw [cgN_f ((hb_z (by omega)).mp h10)]) ?_
        exact ih _
      · have hgo : hb (I 23 11) j := Classical.byContradiction (fun q => h10 ((hb_z (by omega)).mpr q))
        refine v_aload_n dX2_goHours_31 rfl 2 rfl ?_
        refine v_get (v := .ref (g.1 + 28)) fa_X2_24 dX2_goHours_32 rfl (by decide) (ltn rfl) rfl ?_
        refine v_iload dX2_goHours_35 0 rfl ?_
        refine v_iaload (len := 6) (j := j) dX2_goHours_37 rfl (ltn rfl) rfl (by decide) rfl (by omega) ?_
        refine v_is (y := I 28 j) (by rfl) ?_
        refine v_if_lt (tgt := 65) dX2_goHours_38 (by decide) (fun h12 => ?_) (fun h12 => ?_)
        · refine v_inc (v := nI (j + 1)) (lv2 := [(4, .int (nI (j + 1))), (3, .int (nI i)), (0, .ref (g.1 + 23)), (1, .int (nI nz)), (2, .int mo)]) dX2_goHours_65 0 rfl (nx_inc rfl) (by decide) rfl ?_
          refine v_goto (tgt := 10) dX2_goHours_68 (by decide) ?_
          refine v_I (I2 := (va_up (mpH23 I ((cgN (I 23 11) (I 24) (I 25) (I 26) (I 28) (I 31) pp (nsW I nl na) (lessC mo) (chrN (I 23 11) (I 24) (I 25) (I 26) (I 28) (I 31) pp (nsW I nl na) (I (ncell na) 0) (lessC mo) (mgH23 I) i).2 (chrN (I 23 11) (I 24) (I 25) (I 26) (I 28) (I 31) pp (nsW I nl na) (I (ncell na) 0) (lessC mo) (mgH23 I) i).1 (j + 1)), (chrN (I 23 11) (I 24) (I 25) (I 26) (I 28) (I 31) pp (nsW I nl na) (I (ncell na) 0) (lessC mo) (mgH23 I) i).2)) 32 fq)) (by rw [cgN_t hgo, go1_a h12]) ?_
          exact ih _
        · have hgn := h12
          refine v_aload_n dX2_goHours_41 rfl 2 rfl ?_
          refine v_get (v := .ref (g.1 + 28)) fa_X2_24 dX2_goHours_42 rfl (by decide) (ltn rfl) rfl ?_
          refine v_iload dX2_goHours_45 0 rfl ?_
          refine v_iaload (len := 6) (j := j) dX2_goHours_47 rfl (ltn rfl) rfl (by decide) rfl (by omega) ?_
          refine v_is (y := I 28 j) (by rfl) ?_
          refine v_aload_n dX2_goHours_48 rfl 2 rfl ?_
          refine v_get (v := .ref (g.1 + 27)) fa_X2_21 dX2_goHours_49 rfl (by decide) (ltn rfl) rfl ?_
          refine v_iload dX2_goHours_52 0 rfl ?_
          refine v_iaload (len := 6) (j := j) dX2_goHours_54 rfl (ltn rfl) rfl (by decide) rfl (by omega) ?_
          refine v_is (y := (cgN (I 23 11) (I 24) (I 25) (I 26) (I 28) (I 31) pp (nsW I nl na) (lessC mo) (chrN (I 23 11) (I 24) (I 25) (I 26) (I 28) (I 31) pp (nsW I nl na) (I (ncell na) 0) (lessC mo) (mgH23 I) i).2 (chrN (I 23 11) (I 24) (I 25) (I 26) (I 28) (I 31) pp (nsW I nl na) (I (ncell na) 0) (lessC mo) (mgH23 I) i).1 j).1 j) (by rfl) ?_
          refine v_icmp_eq (tgt := 65) dX2_goHours_55 (by decide) (fun h14 => ?_) (fun h14 => ?_)
          · refine v_inc (v := nI (j + 1)) (lv2 := [(4, .int (nI (j + 1))), (3, .int (nI i)), (0, .ref (g.1 + 23)), (1, .int (nI nz)), (2, .int mo)]) dX2_goHours_65 0 rfl (nx_inc rfl) (by decide) rfl ?_
            refine v_goto (tgt := 10) dX2_goHours_68 (by decide) ?_
            refine v_I (I2 := (va_up (mpH23 I ((cgN (I 23 11) (I 24) (I 25) (I 26) (I 28) (I 31) pp (nsW I nl na) (lessC mo) (chrN (I 23 11) (I 24) (I 25) (I 26) (I 28) (I 31) pp (nsW I nl na) (I (ncell na) 0) (lessC mo) (mgH23 I) i).2 (chrN (I 23 11) (I 24) (I 25) (I 26) (I 28) (I 31) pp (nsW I nl na) (I (ncell na) 0) (lessC mo) (mgH23 I) i).1 (j + 1)), (chrN (I 23 11) (I 24) (I 25) (I 26) (I 28) (I 31) pp (nsW I nl na) (I (ncell na) 0) (lessC mo) (mgH23 I) i).2)) 32 fq)) (by rw [cgN_t hgo, go1_b h14]) ?_
            exact ih _
          · refine v_aload_n dX2_goHours_58 rfl 2 rfl ?_
            refine v_iload dX2_goHours_59 0 rfl ?_
            refine v_iload_n dX2_goHours_61 rfl 4 rfl ?_
            refine v_callVfv (As := [.int (nI j), .int mo]) (rest := []) lk_X2_83 (c_goOn_23 (I := (va_up (mpH23 I ((cgN (I 23 11) (I 24) (I 25) (I 26) (I 28) (I 31) pp (nsW I nl na) (lessC mo) (chrN (I 23 11) (I 24) (I 25) (I 26) (I 28) (I 31) pp (nsW I nl na) (I (ncell na) 0) (lessC mo) (mgH23 I) i).2 (chrN (I 23 11) (I 24) (I 25) (I 26) (I 28) (I 31) pp (nsW I nl na) (I (ncell na) 0) (lessC mo) (mgH23 I) i).1 j), (chrN (I 23 11) (I 24) (I 25) (I 26) (I 28) (I 31) pp (nsW I nl na) (I (ncell na) 0) (lessC mo) (mgH23 I) i).2)) 32 fq)) j mo pp hpp hpe (by omega) hxm hsl (by rw [St23_s]; exact hok) hTj.2 (hTj.1 j (by omega)) ((hG j (by omega)).resolve_left hgn) h14) dX2_goHours_62 rfl (ltn rfl) rfl rfl (Nat.le_of_ble_eq_true rfl) (by decide) (fun fq15 => ?_)
            refine v_I (I2 := (va_up (mpH23 I ((go1 (I 24) (I 25) (I 26) (I 28) (I 31) pp (nsW I nl na) (chrN (I 23 11) (I 24) (I 25) (I 26) (I 28) (I 31) pp (nsW I nl na) (I (ncell na) 0) (lessC mo) (mgH23 I) i).2 (lessC mo) (cgN (I 23 11) (I 24) (I 25) (I 26) (I 28) (I 31) pp (nsW I nl na) (lessC mo) (chrN (I 23 11) (I 24) (I 25) (I 26) (I 28) (I 31) pp (nsW I nl na) (I (ncell na) 0) (lessC mo) (mgH23 I) i).2 (chrN (I 23 11) (I 24) (I 25) (I 26) (I 28) (I 31) pp (nsW I nl na) (I (ncell na) 0) (lessC mo) (mgH23 I) i).1 j) j), (chrN (I 23 11) (I 24) (I 25) (I 26) (I 28) (I 31) pp (nsW I nl na) (I (ncell na) 0) (lessC mo) (mgH23 I) i).2)) 32 fq15)) (by rw [St23_go, nsW_off St23_s]; rfl) ?_
            refine v_inc (v := nI (j + 1)) (lv2 := [(4, .int (nI (j + 1))), (3, .int (nI i)), (0, .ref (g.1 + 23)), (1, .int (nI nz)), (2, .int mo)]) dX2_goHours_65 0 rfl (nx_inc rfl) (by decide) rfl ?_
            refine v_goto (tgt := 10) dX2_goHours_68 (by decide) ?_
            refine v_I (I2 := (va_up (mpH23 I ((cgN (I 23 11) (I 24) (I 25) (I 26) (I 28) (I 31) pp (nsW I nl na) (lessC mo) (chrN (I 23 11) (I 24) (I 25) (I 26) (I 28) (I 31) pp (nsW I nl na) (I (ncell na) 0) (lessC mo) (mgH23 I) i).2 (chrN (I 23 11) (I 24) (I 25) (I 26) (I 28) (I 31) pp (nsW I nl na) (I (ncell na) 0) (lessC mo) (mgH23 I) i).1 (j + 1)), (chrN (I 23 11) (I 24) (I 25) (I 26) (I 28) (I 31) pp (nsW I nl na) (I (ncell na) 0) (lessC mo) (mgH23 I) i).2)) 32 fq15)) (by rw [cgN_t hgo]) ?_
            exact ih _
theorem St33_off {I : Ty} {z : ZH} {f : Nat → Int32} {k : Nat} (h : k = 21 ∨ k = 22 ∨ 116 ≤ k) : (va_up (mpH33 I z) 42 f) k = I k := by
  unfold mpH33 mpC33
  rw [up_off _ _ (by omega), up_off _ _ (by omega), up_off _ _ (by omega), up_off _ _ (by omega), up_off _ _ (by omega)]
theorem St33_n {I : Ty} {z : ZH} {f : Nat → Int32} {x : Nat} : (va_up (mpH33 I z) 42 f) (ncell x) = I (ncell x) := St33_off ((ncell_off x).imp id Or.inr)
theorem St33_s {I : Ty} {z : ZH} {f : Nat → Int32} {x : Nat} : (va_up (mpH33 I z) 42 f) (scell x) = I (scell x) := St33_off (Or.inr (scell_off x))
theorem St33_0 (I : Ty) : I = va_up (mpH33 I (mgH33 I)) 42 (I 42) := by
  show I = va_up (va_up (va_up (va_up (va_up I 37 (I 37)) 39 (I 39)) 40 (I 40)) 33 (va_up (I 33) 9 (I 33 9))) 42 (I 42)
  rw [up_self, up_self, up_self, up_self, up_self, up_self]
theorem St33_go (I : Ty) (z : ZH) (f f2 : Nat → Int32) (T : T3) : va_up (mpC33 (va_up (mpH33 I z) 42 f) T) 42 f2 = va_up (mpH33 I (T, z.2)) 42 f2 := by
  unfold mpH33 mpC33
  funext a
  by_cases h33 : a = 33
  · subst h33; first | rfl | (funext jz; by_cases h9 : jz = 9; (subst h9; rfl); simp [va_up, h9]; done)
  by_cases h37 : a = 37
  · subst h37; rfl
  by_cases h39 : a = 39
  · subst h39; rfl
  by_cases h40 : a = 40
  · subst h40; rfl
  by_cases h42 : a = 42
  · subst h42; rfl
  simp [h33, h37, h39, h40, h42, va_up]
theorem St33_ch (I : Ty) (z : ZH) (f r : Nat → Int32) : va_up (va_up (mpH33 I z) 42 f) 39 r = va_up (mpH33 I ((z.1.1, r, z.1.2.2), z.2)) 42 f := by
  unfold mpH33 mpC33
  funext a
  by_cases h33 : a = 33
  · subst h33; first | rfl | (funext jz; by_cases h9 : jz = 9; (subst h9; rfl); simp [va_up, h9]; done)
  by_cases h37 : a = 37
  · subst h37; rfl
  by_cases h39 : a = 39
  · subst h39; rfl
  by_cases h40 : a = 40
  · subst h40; rfl
  by_cases h42 : a = 42
  · subst h42; rfl
  simp [h33, h37, h39, h40, h42, va_up]
theorem St33_ho (I : Ty) (z : ZH) (f : Nat → Int32) (v : Int32) : wr (va_up (mpH33 I z) 42 f) 33 9 v = va_up (mpH33 I (z.1, v)) 42 f := by
  unfold mpH33 mpC33
  funext a
  by_cases h33 : a = 33
  · subst h33; first | rfl | (funext jz; by_cases h9 : jz = 9; (subst h9; rfl); simp [va_up, h9]; done)
  by_cases h37 : a = 37
  · subst h37; rfl
  by_cases h39 : a = 39
  · subst h39; rfl
  by_cases h40 : a = 40
  · subst h40; rfl
  by_cases h42 : a = 42
  · subst h42; rfl
  simp [h33, h37, h39, h40, h42, va_up]
set_option maxRecDepth 100000 in
set_option maxHeartbeats 4000000 in
theorem c_goHours_33 {g : Gl} {I : Ty} {L : TL} {na nt ni m : Nat} {nl : Nat → Nat} (nz : Nat) (mo : Int32) (pp : Nat) (hpp : pp ≤ 6) (hpe : I 33 1 = nI pp) (hnz : nz < 1000000) (hxm : 2 * nt ≤ m) (hsl : sln nl nt ≤ 100) (hok : okSt (I (scell nt)) (sln nl nt)) (hS : okS (mgC33 I)) (hch : ChOK (I 39)) (hG : okG (I 38)) : Ct g yX2_goHours cX2_goHours 5 none 4 0 0 [.ref (g.1 + 33), .int (nI nz), .int mo] I L (RT na nt ni) (NT nl) (NB + m) (Pfa 42 none (mpH33 I (chrN (I 33 11) (I 34) (I 35) (I 36) (I 38) (I 41) pp (nsW I nl nt) (I (ncell nt) 0) (lessC mo) (mgH33 I) nz)) L (RT na nt ni) (NT nl) (NB + m)) := by
  refine ct_of (by decide +kernel) (Nat.le_of_ble_eq_true rfl) (fun F hnm hr => ?_)
  clear hnm
  show V g F cX2_goHours RX2 5 4 0 [(0, .ref (g.1 + 33)), (1, .int (nI nz)), (2, .int mo)] [] I L (RT na nt ni) (NT nl) (NB + m) 0 0
  refine v_iconst (v := 0) dX2_goHours_0 (by decide) ?_
  refine v_istore_n (lv2 := [(3, .int 0), (0, .ref (g.1 + 33)), (1, .int (nI nz)), (2, .int mo)]) dX2_goHours_1 rfl (by decide) rfl ?_
  refine v_lv (lv2 := [(3, .int (nI 0)), (0, .ref (g.1 + 33)), (1, .int (nI nz)), (2, .int mo)]) (by rfl) ?_
  refine v_I (I2 := (va_up (mpH33 I (chrN (I 33 11) (I 34) (I 35) (I 36) (I 38) (I 41) pp (nsW I nl nt) (I (ncell nt) 0) (lessC mo) (mgH33 I) 0)) 42 (I 42))) (by exact St33_0 I) ?_
  refine dloop (P := fun i => ∀ (fq : Nat → Int32), V g F cX2_goHours RX2 5 4 2 [(3, .int (nI i)), (0, .ref (g.1 + 33)), (1, .int (nI nz)), (2, .int mo)] [] (va_up (mpH33 I (chrN (I 33 11) (I 34) (I 35) (I 36) (I 38) (I 41) pp (nsW I nl nt) (I (ncell nt) 0) (lessC mo) (mgH33 I) i)) 42 fq) L (RT na nt ni) (NT nl) (NB + m) 0 0) nz ?_ ?_ 0 (Nat.zero_le _) (I 42)
  · intro fq
    refine v_iload_n dX2_goHours_2 rfl 0 rfl ?_
    refine v_iload_n dX2_goHours_3 rfl 2 rfl ?_
    refine v_icmp_geN (a := nz) (b := nz) (tgt := 116) dX2_goHours_4 (by decide) rfl rfl (by omega) (by omega) (fun h1 => ?_) (fun h => by exfalso; omega)
    exact v_vret hr dX2_goHours_116 (⟨rfl, ⟨_, rfl⟩, rfl, rfl, rfl, rfl⟩)
  · intro i hi ih
    intro fq
    have hTi := chrN_ok (go := I 33 11) (ga := I 34) (kd := I 35) (vv := I 36) (gl := I 38) (rw := I 41) (pp := pp) (ns := nsW I nl nt) (fd := (I (ncell nt) 0)) (less := lessC mo) (z := mgH33 I) hpp ⟨hS, hch⟩ hG i
    refine v_iload_n dX2_goHours_2 rfl 0 rfl ?_
    refine v_iload_n dX2_goHours_3 rfl 2 rfl ?_
    refine v_icmp_geN (a := i) (b := nz) (tgt := 116) dX2_goHours_4 (by decide) rfl rfl (by omega) (by omega) (fun h => by exfalso; omega) (fun h2 => ?_)
    refine v_iconst (v := 0) dX2_goHours_7 (by decide) ?_
    refine v_istore (lv2 := [(4, .int 0), (3, .int (nI i)), (0, .ref (g.1 + 33)), (1, .int (nI nz)), (2, .int mo)]) dX2_goHours_8 (by decide) rfl ?_
    refine v_lv (lv2 := [(4, .int (nI 0)), (3, .int (nI i)), (0, .ref (g.1 + 33)), (1, .int (nI nz)), (2, .int mo)]) (by rfl) ?_
    refine v_I (I2 := (va_up (mpH33 I ((cgN (I 33 11) (I 34) (I 35) (I 36) (I 38) (I 41) pp (nsW I nl nt) (lessC mo) (chrN (I 33 11) (I 34) (I 35) (I 36) (I 38) (I 41) pp (nsW I nl nt) (I (ncell nt) 0) (lessC mo) (mgH33 I) i).2 (chrN (I 33 11) (I 34) (I 35) (I 36) (I 38) (I 41) pp (nsW I nl nt) (I (ncell nt) 0) (lessC mo) (mgH33 I) i).1 0), (chrN (I 33 11) (I 34) (I 35) (I 36) (I 38) (I 41) pp (nsW I nl nt) (I (ncell nt) 0) (lessC mo) (mgH33 I) i).2)) 42 fq)) (by rfl) ?_
    refine dloop (P := fun j => ∀ (fq : Nat → Int32), V g F cX2_goHours RX2 5 4 10 [(4, .int (nI j)), (3, .int (nI i)), (0, .ref (g.1 + 33)), (1, .int (nI nz)), (2, .int mo)] [] (va_up (mpH33 I ((cgN (I 33 11) (I 34) (I 35) (I 36) (I 38) (I 41) pp (nsW I nl nt) (lessC mo) (chrN (I 33 11) (I 34) (I 35) (I 36) (I 38) (I 41) pp (nsW I nl nt) (I (ncell nt) 0) (lessC mo) (mgH33 I) i).2 (chrN (I 33 11) (I 34) (I 35) (I 36) (I 38) (I 41) pp (nsW I nl nt) (I (ncell nt) 0) (lessC mo) (mgH33 I) i).1 j), (chrN (I 33 11) (I 34) (I 35) (I 36) (I 38) (I 41) pp (nsW I nl nt) (I (ncell nt) 0) (lessC mo) (mgH33 I) i).2)) 42 fq) L (RT na nt ni) (NT nl) (NB + m) 0 0) pp ?_ ?_ 0 (Nat.zero_le _) fq
    · intro fq
      refine v_iload dX2_goHours_10 0 rfl ?_
      refine v_aload_n dX2_goHours_12 rfl 2 rfl ?_
      refine v_get (v := .int ((va_up (mpH33 I ((cgN (I 33 11) (I 34) (I 35) (I 36) (I 38) (I 41) pp (nsW I nl nt) (lessC mo) (chrN (I 33 11) (I 34) (I 35) (I 36) (I 38) (I 41) pp (nsW I nl nt) (I (ncell nt) 0) (lessC mo) (mgH33 I) i).2 (chrN (I 33 11) (I 34) (I 35) (I 36) (I 38) (I 41) pp (nsW I nl nt) (I (ncell nt) 0) (lessC mo) (mgH33 I) i).1 pp), (chrN (I 33 11) (I 34) (I 35) (I 36) (I 38) (I 41) pp (nsW I nl nt) (I (ncell nt) 0) (lessC mo) (mgH33 I) i).2)) 42 fq) 33 1)) fa_X2_53 dX2_goHours_13 rfl (by decide) (ltn rfl) rfl ?_
      refine v_is (y := nI pp) (by exact hpe) ?_
      refine v_icmp_geN (a := pp) (b := pp) (tgt := 71) dX2_goHours_16 (by decide) rfl rfl (by omega) (by omega) (fun h3 => ?_) (fun h => by exfalso; omega)
      refine v_aload_n dX2_goHours_71 rfl 2 rfl ?_
      refine v_get (v := .ref (g.1 + (ncell nt))) fa_X2_45 dX2_goHours_72 rfl (by decide) (ltn rfl) rfl ?_
      refine v_get (v := .int ((va_up (mpH33 I ((cgN (I 33 11) (I 34) (I 35) (I 36) (I 38) (I 41) pp (nsW I nl nt) (lessC mo) (chrN (I 33 11) (I 34) (I 35) (I 36) (I 38) (I 41) pp (nsW I nl nt) (I (ncell nt) 0) (lessC mo) (mgH33 I) i).2 (chrN (I 33 11) (I 34) (I 35) (I 36) (I 38) (I 41) pp (nsW I nl nt) (I (ncell nt) 0) (lessC mo) (mgH33 I) i).1 pp), (chrN (I 33 11) (I 34) (I 35) (I 36) (I 38) (I 41) pp (nsW I nl nt) (I (ncell nt) 0) (lessC mo) (mgH33 I) i).2)) 42 fq) (ncell nt) 0)) fa_X2_87 dX2_goHours_75 (kd_nc nt) (by decide) (lt_nc hxm) rfl ?_
      refine v_is (y := I (ncell nt) 0) (by exact congrFun St33_n _) ?_
      refine v_if_le (tgt := 100) dX2_goHours_78 (by decide) (fun h5 => ?_) (fun h5 => ?_)
      · have hfd : ¬ (0 < (I (ncell nt) 0) ∧ (chrN (I 33 11) (I 34) (I 35) (I 36) (I 38) (I 41) pp (nsW I nl nt) (I (ncell nt) 0) (lessC mo) (mgH33 I) i).2 - (chrN (I 33 11) (I 34) (I 35) (I 36) (I 38) (I 41) pp (nsW I nl nt) (I (ncell nt) 0) (lessC mo) (mgH33 I) i).2 / (I (ncell nt) 0) * (I (ncell nt) 0) = 0) := fun z => Int32.not_lt.mpr h5 z.1
        refine v_aload_n dX2_goHours_100 rfl 2 rfl ?_
        refine v_dup dX2_goHours_101 rfl ?_
        refine v_get (v := .int ((va_up (mpH33 I ((cgN (I 33 11) (I 34) (I 35) (I 36) (I 38) (I 41) pp (nsW I nl nt) (lessC mo) (chrN (I 33 11) (I 34) (I 35) (I 36) (I 38) (I 41) pp (nsW I nl nt) (I (ncell nt) 0) (lessC mo) (mgH33 I) i).2 (chrN (I 33 11) (I 34) (I 35) (I 36) (I 38) (I 41) pp (nsW I nl nt) (I (ncell nt) 0) (lessC mo) (mgH33 I) i).1 pp), (chrN (I 33 11) (I 34) (I 35) (I 36) (I 38) (I 41) pp (nsW I nl nt) (I (ncell nt) 0) (lessC mo) (mgH33 I) i).2)) 42 fq) 33 9)) fa_X2_62 dX2_goHours_102 rfl (by decide) (ltn rfl) rfl ?_
        refine v_is (y := (chrN (I 33 11) (I 34) (I 35) (I 36) (I 38) (I 41) pp (nsW I nl nt) (I (ncell nt) 0) (lessC mo) (mgH33 I) i).2) (by rfl) ?_
        refine v_iconst (v := 1) dX2_goHours_105 (by decide) ?_
        refine v_iadd dX2_goHours_106 ?_
        refine v_puti pa_X2_62 dX2_goHours_107 rfl (by decide) (ltn rfl) (by show 9 < 13; decide) rfl ?_
        refine v_inc (v := nI (i + 1)) (lv2 := [(3, .int (nI (i + 1))), (4, .int (nI pp)), (0, .ref (g.1 + 33)), (1, .int (nI nz)), (2, .int mo)]) dX2_goHours_110 1 rfl (nx_inc rfl) (by decide) rfl ?_
        refine v_goto (tgt := 2) dX2_goHours_113 (by decide) ?_
        refine v_sub (lv2 := [(3, .int (nI (i + 1))), (0, .ref (g.1 + 33)), (1, .int (nI nz)), (2, .int mo)]) [0, 2, 3, 4] rfl ?_
        refine v_I (I2 := (va_up (mpH33 I (chrN (I 33 11) (I 34) (I 35) (I 36) (I 38) (I 41) pp (nsW I nl nt) (I (ncell nt) 0) (lessC mo) (mgH33 I) (i + 1))) 42 fq)) (by exact (St33_ho _ _ _ _).trans (congrArg (fun q => va_up (mpH33 I q) 42 fq) (chr1_f (z := (chrN (I 33 11) (I 34) (I 35) (I 36) (I 38) (I 41) pp (nsW I nl nt) (I (ncell nt) 0) (lessC mo) (mgH33 I) i)) hfd).symm)) ?_
        exact ih _
      · have hfp := Int32.not_le.mp h5
        have hf0 : ¬ (I (ncell nt) 0) = 0 := fun e => absurd (e ▸ hfp) (by decide)
        refine v_aload_n dX2_goHours_81 rfl 2 rfl ?_
        refine v_get (v := .int ((va_up (mpH33 I ((cgN (I 33 11) (I 34) (I 35) (I 36) (I 38) (I 41) pp (nsW I nl nt) (lessC mo) (chrN (I 33 11) (I 34) (I 35) (I 36) (I 38) (I 41) pp (nsW I nl nt) (I (ncell nt) 0) (lessC mo) (mgH33 I) i).2 (chrN (I 33 11) (I 34) (I 35) (I 36) (I 38) (I 41) pp (nsW I nl nt) (I (ncell nt) 0) (lessC mo) (mgH33 I) i).1 pp), (chrN (I 33 11) (I 34) (I 35) (I 36) (I 38) (I 41) pp (nsW I nl nt) (I (ncell nt) 0) (lessC mo) (mgH33 I) i).2)) 42 fq) 33 9)) fa_X2_62 dX2_goHours_82 rfl (by decide) (ltn rfl) rfl ?_
        refine v_is (y := (chrN (I 33 11) (I 34) (I 35) (I 36) (I 38) (I 41) pp (nsW I nl nt) (I (ncell nt) 0) (lessC mo) (mgH33 I) i).2) (by rfl) ?_
        refine v_aload_n dX2_goHours_85 rfl 2 rfl ?_
        refine v_get (v := .ref (g.1 + (ncell nt))) fa_X2_45 dX2_goHours_86 rfl (by decide) (ltn rfl) rfl ?_
        refine v_get (v := .int ((va_up (mpH33 I ((cgN (I 33 11) (I 34) (I 35) (I 36) (I 38) (I 41) pp (nsW I nl nt) (lessC mo) (chrN (I 33 11) (I 34) (I 35) (I 36) (I 38) (I 41) pp (nsW I nl nt) (I (ncell nt) 0) (lessC mo) (mgH33 I) i).2 (chrN (I 33 11) (I 34) (I 35) (I 36) (I 38) (I 41) pp (nsW I nl nt) (I (ncell nt) 0) (lessC mo) (mgH33 I) i).1 pp), (chrN (I 33 11) (I 34) (I 35) (I 36) (I 38) (I 41) pp (nsW I nl nt) (I (ncell nt) 0) (lessC mo) (mgH33 I) i).2)) 42 fq) (ncell nt) 0)) fa_X2_87 dX2_goHours_89 (kd_nc nt) (by decide) (lt_nc hxm) rfl ?_
        refine v_is (y := I (ncell nt) 0) (by exact congrFun St33_n _) ?_
        refine v_irem dX2_goHours_92 hf0 ?_
        refine v_if_ne (tgt := 100) dX2_goHours_93 (by decide) (fun h7 => ?_) (fun h7 => ?_)
        · have hfd : ¬ (0 < (I (ncell nt) 0) ∧ (chrN (I 33 11) (I 34) (I 35) (I 36) (I 38) (I 41) pp (nsW I nl nt) (I (ncell nt) 0) (lessC mo) (mgH33 I) i).2 - (chrN (I 33 11) (I 34) (I 35) (I 36) (I 38) (I 41) pp (nsW I nl nt) (I (ncell nt) 0) (lessC mo) (mgH33 I) i).2 / (I (ncell nt) 0) * (I (ncell nt) 0) = 0) := fun z => h7 z.2
          refine v_aload_n dX2_goHours_100 rfl 2 rfl ?_
          refine v_dup dX2_goHours_101 rfl ?_
          refine v_get (v := .int ((va_up (mpH33 I ((cgN (I 33 11) (I 34) (I 35) (I 36) (I 38) (I 41) pp (nsW I nl nt) (lessC mo) (chrN (I 33 11) (I 34) (I 35) (I 36) (I 38) (I 41) pp (nsW I nl nt) (I (ncell nt) 0) (lessC mo) (mgH33 I) i).2 (chrN (I 33 11) (I 34) (I 35) (I 36) (I 38) (I 41) pp (nsW I nl nt) (I (ncell nt) 0) (lessC mo) (mgH33 I) i).1 pp), (chrN (I 33 11) (I 34) (I 35) (I 36) (I 38) (I 41) pp (nsW I nl nt) (I (ncell nt) 0) (lessC mo) (mgH33 I) i).2)) 42 fq) 33 9)) fa_X2_62 dX2_goHours_102 rfl (by decide) (ltn rfl) rfl ?_
          refine v_is (y := (chrN (I 33 11) (I 34) (I 35) (I 36) (I 38) (I 41) pp (nsW I nl nt) (I (ncell nt) 0) (lessC mo) (mgH33 I) i).2) (by rfl) ?_
          refine v_iconst (v := 1) dX2_goHours_105 (by decide) ?_
          refine v_iadd dX2_goHours_106 ?_
          refine v_puti pa_X2_62 dX2_goHours_107 rfl (by decide) (ltn rfl) (by show 9 < 13; decide) rfl ?_
          refine v_inc (v := nI (i + 1)) (lv2 := [(3, .int (nI (i + 1))), (4, .int (nI pp)), (0, .ref (g.1 + 33)), (1, .int (nI nz)), (2, .int mo)]) dX2_goHours_110 1 rfl (nx_inc rfl) (by decide) rfl ?_
          refine v_goto (tgt := 2) dX2_goHours_113 (by decide) ?_
          refine v_sub (lv2 := [(3, .int (nI (i + 1))), (0, .ref (g.1 + 33)), (1, .int (nI nz)), (2, .int mo)]) [0, 2, 3, 4] rfl ?_
          refine v_I (I2 := (va_up (mpH33 I (chrN (I 33 11) (I 34) (I 35) (I 36) (I 38) (I 41) pp (nsW I nl nt) (I (ncell nt) 0) (lessC mo) (mgH33 I) (i + 1))) 42 fq)) (by exact (St33_ho _ _ _ _).trans (congrArg (fun q => va_up (mpH33 I q) 42 fq) (chr1_f (z := (chrN (I 33 11) (I 34) (I 35) (I 36) (I 38) (I 41) pp (nsW I nl nt) (I (ncell nt) 0) (lessC mo) (mgH33 I) i)) hfd).symm)) ?_
          exact ih _
        · have hfd : (0 < (I (ncell nt) 0) ∧ (chrN (I 33 11) (I 34) (I 35) (I 36) (I 38) (I 41) pp (nsW I nl nt) (I (ncell nt) 0) (lessC mo) (mgH33 I) i).2 - (chrN (I 33 11) (I 34) (I 35) (I 36) (I 38) (I 41) pp (nsW I nl nt) (I (ncell nt) 0) (lessC mo) (mgH33 I) i).2 / (I (ncell nt) 0) * (I (ncell nt) 0) = 0) := ⟨hfp, h7⟩
          refine v_aload_n dX2_goHours_96 rfl 2 rfl ?_
          refine v_callVv (As := []) (rest := []) lk_X2_90 (c_fade_33 (I := (va_up (mpH33 I ((cgN (I 33 11) (I 34) (I 35) (I 36) (I 38) (I 41) pp (nsW I nl nt) (lessC mo) (chrN (I 33 11) (I 34) (I 35) (I 36) (I 38) (I 41) pp (nsW I nl nt) (I (ncell nt) 0) (lessC mo) (mgH33 I) i).2 (chrN (I 33 11) (I 34) (I 35) (I 36) (I 38) (I 41) pp (nsW I nl nt) (I (ncell nt) 0) (lessC mo) (mgH33 I) i).1 pp), (chrN (I 33 11) (I 34) (I 35) (I 36) (I 38) (I 41) pp (nsW I nl nt) (I (ncell nt) 0) (lessC mo) (mgH33 I) i).2)) 42 fq)) pp hpp hpe) dX2_goHours_97 rfl (ltn rfl) rfl rfl (Nat.le_of_ble_eq_true rfl) (by decide) ?_
          refine v_I (I2 := (va_up (mpH33 I (((cgN (I 33 11) (I 34) (I 35) (I 36) (I 38) (I 41) pp (nsW I nl nt) (lessC mo) (chrN (I 33 11) (I 34) (I 35) (I 36) (I 38) (I 41) pp (nsW I nl nt) (I (ncell nt) 0) (lessC mo) (mgH33 I) i).2 (chrN (I 33 11) (I 34) (I 35) (I 36) (I 38) (I 41) pp (nsW I nl nt) (I (ncell nt) 0) (lessC mo) (mgH33 I) i).1 pp).1, cpn (fun j => (cgN (I 33 11) (I 34) (I 35) (I 36) (I 38) (I 41) pp (nsW I nl nt) (lessC mo) (chrN (I 33 11) (I 34) (I 35) (I 36) (I 38) (I 41) pp (nsW I nl nt) (I (ncell nt) 0) (lessC mo) (mgH33 I) i).2 (chrN (I 33 11) (I 34) (I 35) (I 36) (I 38) (I 41) pp (nsW I nl nt) (I (ncell nt) 0) (lessC mo) (mgH33 I) i).1 pp).2.1 j &&& ((cgN (I 33 11) (I 34) (I 35) (I 36) (I 38) (I 41) pp (nsW I nl nt) (lessC mo) (chrN (I 33 11) (I 34) (I 35) (I 36) (I 38) (I 41) pp (nsW I nl nt) (I (ncell nt) 0) (lessC mo) (mgH33 I) i).2 (chrN (I 33 11) (I 34) (I 35) (I 36) (I 38) (I 41) pp (nsW I nl nt) (I (ncell nt) 0) (lessC mo) (mgH33 I) i).1 pp).2.1 j - 1)) (cgN (I 33 11) (I 34) (I 35) (I 36) (I 38) (I 41) pp (nsW I nl nt) (lessC mo) (chrN (I 33 11) (I 34) (I 35) (I 36) (I 38) (I 41) pp (nsW I nl nt) (I (ncell nt) 0) (lessC mo) (mgH33 I) i).2 (chrN (I 33 11) (I 34) (I 35) (I 36) (I 38) (I 41) pp (nsW I nl nt) (I (ncell nt) 0) (lessC mo) (mgH33 I) i).1 pp).2.1 pp, (cgN (I 33 11) (I 34) (I 35) (I 36) (I 38) (I 41) pp (nsW I nl nt) (lessC mo) (chrN (I 33 11) (I 34) (I 35) (I 36) (I 38) (I 41) pp (nsW I nl nt) (I (ncell nt) 0) (lessC mo) (mgH33 I) i).2 (chrN (I 33 11) (I 34) (I 35) (I 36) (I 38) (I 41) pp (nsW I nl nt) (I (ncell nt) 0) (lessC mo) (mgH33 I) i).1 pp).2.2), (chrN (I 33 11) (I 34) (I 35) (I 36) (I 38) (I 41) pp (nsW I nl nt) (I (ncell nt) 0) (lessC mo) (mgH33 I) i).2)) 42 fq)) (St33_ch _ _ _ _) ?_
          refine v_aload_n dX2_goHours_100 rfl 2 rfl ?_
          refine v_dup dX2_goHours_101 rfl ?_
          refine v_get (v := .int ((va_up (mpH33 I (((cgN (I 33 11) (I 34) (I 35) (I 36) (I 38) (I 41) pp (nsW I nl nt) (lessC mo) (chrN (I 33 11) (I 34) (I 35) (I 36) (I 38) (I 41) pp (nsW I nl nt) (I (ncell nt) 0) (lessC mo) (mgH33 I) i).2 (chrN (I 33 11) (I 34) (I 35) (I 36) (I 38) (I 41) pp (nsW I nl nt) (I (ncell nt) 0) (lessC mo) (mgH33 I) i).1 pp).1, cpn (fun j => (cgN (I 33 11) (I 34) (I 35) (I 36) (I 38) (I 41) pp (nsW I nl nt) (lessC mo) (chrN (I 33 11) (I 34) (I 35) (I 36) (I 38) (I 41) pp (nsW I nl nt) (I (ncell nt) 0) (lessC mo) (mgH33 I) i).2 (chrN (I 33 11) (I 34) (I 35) (I 36) (I 38) (I 41) pp (nsW I nl nt) (I (ncell nt) 0) (lessC mo) (mgH33 I) i).1 pp).2.1 j &&& ((cgN (I 33 11) (I 34) (I 35) (I 36) (I 38) (I 41) pp (nsW I nl nt) (lessC mo) (chrN (I 33 11) (I 34) (I 35) (I 36) (I 38) (I 41) pp (nsW I nl nt) (I (ncell nt) 0) (lessC mo) (mgH33 I) i).2 (chrN (I 33 11) (I 34) (I 35) (I 36) (I 38) (I 41) pp (nsW I nl nt) (I (ncell nt) 0) (lessC mo) (mgH33 I) i).1 pp).2.1 j - 1)) (cgN (I 33 11) (I 34) (I 35) (I 36) (I 38) (I 41) pp (nsW I nl nt) (lessC mo) (chrN (I 33 11) (I 34) (I 35) (I 36) (I 38) (I 41) pp (nsW I nl nt) (I (ncell nt) 0) (lessC mo) (mgH33 I) i).2 (chrN (I 33 11) (I 34) (I 35) (I 36) (I 38) (I 41) pp (nsW I nl nt) (I (ncell nt) 0) (lessC mo) (mgH33 I) i).1 pp).2.1 pp, (cgN (I 33 11) (I 34) (I 35) (I 36) (I 38) (I 41) pp (nsW I nl nt) (lessC mo) (chrN (I 33 11) (I 34) (I 35) (I 36) (I 38) (I 41) pp (nsW I nl nt) (I (ncell nt) 0) (lessC mo) (mgH33 I) i).2 (chrN (I 33 11) (I 34) (I 35) (I 36) (I 38) (I 41) pp (nsW I nl nt) (I (ncell nt) 0) (lessC mo) (mgH33 I) i).1 pp).2.2), (chrN (I 33 11) (I 34) (I 35) (I 36) (I 38) (I 41) pp (nsW I nl nt) (I (ncell nt) 0) (lessC mo) (mgH33 I) i).2)) 42 fq) 33 9)) fa_X2_62 dX2_goHours_102 rfl (by decide) (ltn rfl) rfl ?_
          refine v_is (y := (chrN (I 33 11) (I 34) (I 35) (I 36) (I 38) (I 41) pp (nsW I nl nt) (I (ncell nt) 0) (lessC mo) (mgH33 I) i).2) (by rfl) ?_
          refine v_iconst (v := 1) dX2_goHours_105 (by decide) ?_
          refine v_iadd dX2_goHours_106 ?_
          refine v_puti pa_X2_62 dX2_goHours_107 rfl (by decide) (ltn rfl) (by show 9 < 13; decide) rfl ?_
          refine v_inc (v := nI (i + 1)) (lv2 := [(3, .int (nI (i + 1))), (4, .int (nI pp)), (0, .ref (g.1 + 33)), (1, .int (nI nz)), (2, .int mo)]) dX2_goHours_110 1 rfl (nx_inc rfl) (by decide) rfl ?_
          refine v_goto (tgt := 2) dX2_goHours_113 (by decide) ?_
          refine v_sub (lv2 := [(3, .int (nI (i + 1))), (0, .ref (g.1 + 33)), (1, .int (nI nz)), (2, .int mo)]) [0, 2, 3, 4] rfl ?_
          refine v_I (I2 := (va_up (mpH33 I (chrN (I 33 11) (I 34) (I 35) (I 36) (I 38) (I 41) pp (nsW I nl nt) (I (ncell nt) 0) (lessC mo) (mgH33 I) (i + 1))) 42 fq)) (by exact (St33_ho _ _ _ _).trans (congrArg (fun q => va_up (mpH33 I q) 42 fq) (chr1_t (z := (chrN (I 33 11) (I 34) (I 35) (I 36) (I 38) (I 41) pp (nsW I nl nt) (I (ncell nt) 0) (lessC mo) (mgH33 I) i)) hfd).symm)) ?_
          exact ih _
    · intro j hi ih
      intro fq
      have hTj := cgN_ok (go := I 33 11) (ga := I 34) (kd := I 35) (vv := I 36) (gl := I 38) (rw := I 41) (pp := pp) (ns := nsW I nl nt) (less := lessC mo) (ho := (chrN (I 33 11) (I 34) (I 35) (I 36) (I 38) (I 41) pp (nsW I nl nt) (I (ncell nt) 0) (lessC mo) (mgH33 I) i).2) hTi hG j (by omega)
      refine v_iload dX2_goHours_10 0 rfl ?_
      refine v_aload_n dX2_goHours_12 rfl 2 rfl ?_
      refine v_get (v := .int ((va_up (mpH33 I ((cgN (I 33 11) (I 34) (I 35) (I 36) (I 38) (I 41) pp (nsW I nl nt) (lessC mo) (chrN (I 33 11) (I 34) (I 35) (I 36) (I 38) (I 41) pp (nsW I nl nt) (I (ncell nt) 0) (lessC mo) (mgH33 I) i).2 (chrN (I 33 11) (I 34) (I 35) (I 36) (I 38) (I 41) pp (nsW I nl nt) (I (ncell nt) 0) (lessC mo) (mgH33 I) i).1 j), (chrN (I 33 11) (I 34) (I 35) (I 36) (I 38) (I 41) pp (nsW I nl nt) (I (ncell nt) 0) (lessC mo) (mgH33 I) i).2)) 42 fq) 33 1)) fa_X2_53 dX2_goHours_13 rfl (by decide) (ltn rfl) rfl ?_
      refine v_is (y := nI pp) (by exact hpe) ?_
      refine v_icmp_geN (a := j) (b := pp) (tgt := 71) dX2_goHours_16 (by decide) rfl rfl (by omega) (by omega) (fun h => by exfalso; omega) (fun h8 => ?_)
      refine v_aload_n dX2_goHours_19 rfl 2 rfl ?_
      refine v_get (v := .int ((va_up (mpH33 I ((cgN (I 33 11) (I 34) (I 35) (I 36) (I 38) (I 41) pp (nsW I nl nt) (lessC mo) (chrN (I 33 11) (I 34) (I 35) (I 36) (I 38) (I 41) pp (nsW I nl nt) (I (ncell nt) 0) (lessC mo) (mgH33 I) i).2 (chrN (I 33 11) (I 34) (I 35) (I 36) (I 38) (I 41) pp (nsW I nl nt) (I (ncell nt) 0) (lessC mo) (mgH33 I) i).1 j), (chrN (I 33 11) (I 34) (I 35) (I 36) (I 38) (I 41) pp (nsW I nl nt) (I (ncell nt) 0) (lessC mo) (mgH33 I) i).2)) 42 fq) 33 11)) fa_X2_36 dX2_goHours_20 rfl (by decide) (ltn rfl) rfl ?_
      refine v_is (y := I 33 11) (by rfl) ?_
      refine v_iload dX2_goHours_23 0 rfl ?_
      refine v_ishr dX2_goHours_25 ?_
      refine v_iconst (v := 1) dX2_goHours_26 (by decide) ?_
      refine v_iand dX2_goHours_27 ?_
      refine v_if_eq (tgt := 65) dX2_goHours_28 (by decide) (fun h10 => ?_) (fun h10 => ?_)
      · refine v_inc (v := nI (j + 1)) (lv2 := [(4, .int (nI (j + 1))), (3, .int (nI i)), (0, .ref (g.1 + 33)), (1, .int (nI nz)), (2, .int mo)]) dX2_goHours_65 0 rfl (nx_inc rfl) (by decide) rfl ?_
        refine v_goto (tgt := 10) dX2_goHours_68 (by decide) ?_
        refine v_I (I2 := (va_up (mpH33 I ((cgN (I 33 11) (I 34) (I 35) (I 36) (I 38) (I 41) pp (nsW I nl nt) (lessC mo) (chrN (I 33 11) (I 34) (I 35) (I 36) (I 38) (I 41) pp (nsW I nl nt) (I (ncell nt) 0) (lessC mo) (mgH33 I) i).2 (chrN (I 33 11) (I 34) (I 35) (I 36) (I 38) (I 41) pp (nsW I nl nt) (I (ncell nt) 0) (lessC mo) (mgH33 I) i).1 (j + 1)), (chrN (I 33 11) (I 34) (I 35) (I 36) (I 38) (I 41) pp (nsW I nl nt) (I (ncell nt) 0) (lessC mo) (mgH33 I) i).2)) 42 fq)) (by rw [cgN_f ((hb_z (by omega)).mp h10)]) ?_
        exact ih _
      · have hgo : hb (I 33 11) j := Classical.byContradiction (fun q => h10 ((hb_z (by omega)).mpr q))
        refine v_aload_n dX2_goHours_31 rfl 2 rfl ?_
        refine v_get (v := .ref (g.1 + 38)) fa_X2_24 dX2_goHours_32 rfl (by decide) (ltn rfl) rfl ?_
        refine v_iload dX2_goHours_35 0 rfl ?_
        refine v_iaload (len := 6) (j := j) dX2_goHours_37 rfl (ltn rfl) rfl (by decide) rfl (by omega) ?_
        refine v_is (y := I 38 j) (by rfl) ?_
        refine v_if_lt (tgt := 65) dX2_goHours_38 (by decide) (fun h12 => ?_) (fun h12 => ?_)
        · refine v_inc (v := nI (j + 1)) (lv2 := [(4, .int (nI (j + 1))), (3, .int (nI i)), (0, .ref (g.1 + 33)), (1, .int (nI nz)), (2, .int mo)]) dX2_goHours_65 0 rfl (nx_inc rfl) (by decide) rfl ?_
          refine v_goto (tgt := 10) dX2_goHours_68 (by decide) ?_
          refine v_I (I2 := (va_up (mpH33 I ((cgN (I 33 11) (I 34) (I 35) (I 36) (I 38) (I 41) pp (nsW I nl nt) (lessC mo) (chrN (I 33 11) (I 34) (I 35) (I 36) (I 38) (I 41) pp (nsW I nl nt) (I (ncell nt) 0) (lessC mo) (mgH33 I) i).2 (chrN (I 33 11) (I 34) (I 35) (I 36) (I 38) (I 41) pp (nsW I nl nt) (I (ncell nt) 0) (lessC mo) (mgH33 I) i).1 (j + 1)), (chrN (I 33 11) (I 34) (I 35) (I 36) (I 38) (I 41) pp (nsW I nl nt) (I (ncell nt) 0) (lessC mo) (mgH33 I) i).2)) 42 fq)) (by rw [cgN_t hgo, go1_a h12]) ?_
          exact ih _
        · have hgn := h12
          refine v_aload_n dX2_goHours_41 rfl 2 rfl ?_
          refine v_get (v := .ref (g.1 + 38)) fa_X2_24 dX2_goHours_42 rfl (by decide) (ltn rfl) rfl ?_
          refine v_iload dX2_goHours_45 0 rfl ?_
          refine v_iaload (len := 6) (j := j) dX2_goHours_47 rfl (ltn rfl) rfl (by decide) rfl (by omega) ?_
          refine v_is (y := I 38 j) (by rfl) ?_
          refine v_aload_n dX2_goHours_48 rfl 2 rfl ?_
          refine v_get (v := .ref (g.1 + 37)) fa_X2_21 dX2_goHours_49 rfl (by decide) (ltn rfl) rfl ?_
          refine v_iload dX2_goHours_52 0 rfl ?_
          refine v_iaload (len := 6) (j := j) dX2_goHours_54 rfl (ltn rfl) rfl (by decide) rfl (by omega) ?_
          refine v_is (y := (cgN (I 33 11) (I 34) (I 35) (I 36) (I 38) (I 41) pp (nsW I nl nt) (lessC mo) (chrN (I 33 11) (I 34) (I 35) (I 36) (I 38) (I 41) pp (nsW I nl nt) (I (ncell nt) 0) (lessC mo) (mgH33 I) i).2 (chrN (I 33 11) (I 34) (I 35) (I 36) (I 38) (I 41) pp (nsW I nl nt) (I (ncell nt) 0) (lessC mo) (mgH33 I) i).1 j).1 j) (by rfl) ?_
          refine v_icmp_eq (tgt := 65) dX2_goHours_55 (by decide) (fun h14 => ?_) (fun h14 => ?_)
          · refine v_inc (v := nI (j + 1)) (lv2 := [(4, .int (nI (j + 1))), (3, .int (nI i)), (0, .ref (g.1 + 33)), (1, .int (nI nz)), (2, .int mo)]) dX2_goHours_65 0 rfl (nx_inc rfl) (by decide) rfl ?_
            refine v_goto (tgt := 10) dX2_goHours_68 (by decide) ?_
            refine v_I (I2 := (va_up (mpH33 I ((cgN (I 33 11) (I 34) (I 35) (I 36) (I 38) (I 41) pp (nsW I nl nt) (lessC mo) (chrN (I 33 11) (I 34) (I 35) (I 36) (I 38) (I 41) pp (nsW I nl nt) (I (ncell nt) 0) (lessC mo) (mgH33 I) i).2 (chrN (I 33 11) (I 34) (I 35) (I 36) (I 38) (I 41) pp (nsW I nl nt) (I (ncell nt) 0) (lessC mo) (mgH33 I) i).1 (j + 1)), (chrN (I 33 11) (I 34) (I 35) (I 36) (I 38) (I 41) pp (nsW I nl nt) (I (ncell nt) 0) (lessC mo) (mgH33 I) i).2)) 42 fq)) (by rw [cgN_t hgo, go1_b h14]) ?_
            exact ih _
          · refine v_aload_n dX2_goHours_58 rfl 2 rfl ?_
            refine v_iload dX2_goHours_59 0 rfl ?_
            refine v_iload_n dX2_goHours_61 rfl 4 rfl ?_
            refine v_callVfv (As := [.int (nI j), .int mo]) (rest := []) lk_X2_83 (c_goOn_33 (I := (va_up (mpH33 I ((cgN (I 33 11) (I 34) (I 35) (I 36) (I 38) (I 41) pp (nsW I nl nt) (lessC mo) (chrN (I 33 11) (I 34) (I 35) (I 36) (I 38) (I 41) pp (nsW I nl nt) (I (ncell nt) 0) (lessC mo) (mgH33 I) i).2 (chrN (I 33 11) (I 34) (I 35) (I 36) (I 38) (I 41) pp (nsW I nl nt) (I (ncell nt) 0) (lessC mo) (mgH33 I) i).1 j), (chrN (I 33 11) (I 34) (I 35) (I 36) (I 38) (I 41) pp (nsW I nl nt) (I (ncell nt) 0) (lessC mo) (mgH33 I) i).2)) 42 fq)) j mo pp hpp hpe (by omega) hxm hsl (by rw [St33_s]; exact hok) hTj.2 (hTj.1 j (by omega)) ((hG j (by omega)).resolve_left hgn) h14) dX2_goHours_62 rfl (ltn rfl) rfl rfl (Nat.le_of_ble_eq_true rfl) (by decide) (fun fq15 => ?_)
            refine v_I (I2 := (va_up (mpH33 I ((go1 (I 34) (I 35) (I 36) (I 38) (I 41) pp (nsW I nl nt) (chrN (I 33 11) (I 34) (I 35) (I 36) (I 38) (I 41) pp (nsW I nl nt) (I (ncell nt) 0) (lessC mo) (mgH33 I) i).2 (lessC mo) (cgN (I 33 11) (I 34) (I 35) (I 36) (I 38) (I 41) pp (nsW I nl nt) (lessC mo) (chrN (I 33 11) (I 34) (I 35) (I 36) (I 38) (I 41) pp (nsW I nl nt) (I (ncell nt) 0) (lessC mo) (mgH33 I) i).2 (chrN (I 33 11) (I 34) (I 35) (I 36) (I 38) (I 41) pp (nsW I nl nt) (I (ncell nt) 0) (lessC mo) (mgH33 I) i).1 j) j), (chrN (I 33 11) (I 34) (I 35) (I 36) (I 38) (I 41) pp (nsW I nl nt) (I (ncell nt) 0) (lessC mo) (mgH33 I) i).2)) 42 fq15)) (by rw [St33_go, nsW_off St33_s]; rfl) ?_
            refine v_inc (v := nI (j + 1)) (lv2 := [(4, .int (nI (j + 1))), (3, .int (nI i)), (0, .ref (g.1 + 33)), (1, .int (nI nz)), (2, .int mo)]) dX2_goHours_65 0 rfl (nx_inc rfl) (by decide) rfl ?_
            refine v_goto (tgt := 10) dX2_goHours_68 (by decide) ?_
            refine v_I (I2 := (va_up (mpH33 I ((cgN (I 33 11) (I 34) (I 35) (I 36) (I 38) (I 41) pp (nsW I nl nt) (lessC mo) (chrN (I 33 11) (I 34) (I 35) (I 36) (I 38) (I 41) pp (nsW I nl nt) (I (ncell nt) 0) (lessC mo) (mgH33 I) i).2 (chrN (I 33 11) (I 34) (I 35) (I 36) (I 38) (I 41) pp (nsW I nl nt) (I (ncell nt) 0) (lessC mo) (mgH33 I) i).1 (j + 1)), (chrN (I 33 11) (I 34) (I 35) (I 36) (I 38) (I 41) pp (nsW I nl nt) (I (ncell nt) 0) (lessC mo) (mgH33 I) i).2)) 42 fq15)) (by rw [cgN_t hgo]) ?_
            exact ih _
