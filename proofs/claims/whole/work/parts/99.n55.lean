section
variable {ga kd vv gl rw : Nat → Int32} {pp : Nat} {ns : (Int32 → Int32) → Int32 → Int32} {fd : Int32} {less : Int32 → Int32} {go : Int32}
/-- alike in what some are -/
def agr (Q : Nat → Prop) (s t : T3) : Prop := ∀ q, Q q → s.1 q = t.1 q ∧ s.2.1 q = t.2.1 q ∧ s.2.2 q = t.2.2 q
theorem go1_at {ho : Int32} {s : T3} {p q : Nat} (h : q ≠ p) : (go1 ga kd vv gl rw pp ns ho less s p).1 q = s.1 q ∧ (go1 ga kd vv gl rw pp ns ho less s p).2.1 q = s.2.1 q ∧ (go1 ga kd vv gl rw pp ns ho less s p).2.2 q = s.2.2 q := by
  unfold go1
  by_cases c1 : gl p < 0
  · rw [ifc_t c1]; exact ⟨rfl, rfl, rfl⟩
  rw [ifc_f c1]
  by_cases c2 : gl p = s.1 p
  · rw [ifc_t c2]; exact ⟨rfl, rfl, rfl⟩
  rw [ifc_f c2]
  by_cases c3 : lw (s.2.1 p) (tn (s.1 p)) (tn (gl p)) < 0
  · rw [ifc_t c3]; exact ⟨rfl, rfl, rfl⟩
  rw [ifc_f c3]
  by_cases c4 : 0 < Wl ga kd vv rw pp ns ho s.1 s.2.1 p (fstC (s.2.1 p) (tn (s.1 p)) (tn (gl p)))
  · rw [ifc_t c4]; exact ⟨up_off _ _ h, rfl, rfl⟩
  rw [ifc_f c4]
  exact ⟨rfl, up_off _ _ h, up_off _ _ h⟩
theorem Wl_q {ho : Int32} {sp sp2 ch ch2 : Nat → Int32} {p c : Nat} (h4 : ¬ kd p = 4) (e : ch p = ch2 p) : Wl ga kd vv rw pp ns ho sp ch p c = Wl ga kd vv rw pp ns ho sp2 ch2 p c := by
  unfold Wl welV
  rw [ifc_f h4, ifc_f h4, e]
theorem go1_q {Q : Nat → Prop} {ho : Int32} {s t : T3} {p : Nat} (h : agr Q s t) (hp : Q p) (h4 : ¬ kd p = 4) : agr Q (go1 ga kd vv gl rw pp ns ho less s p) (go1 ga kd vv gl rw pp ns ho less t p) := by
  obtain ⟨e1, e2, e3⟩ := h p hp
  unfold go1
  rw [e1, e2, e3, Wl_q (sp2 := t.1) (ch2 := t.2.1) h4 e2]
  by_cases c1 : gl p < 0
  · rw [ifc_t c1, ifc_t c1]; exact h
  rw [ifc_f c1, ifc_f c1]
  by_cases c2 : gl p = t.1 p
  · rw [ifc_t c2, ifc_t c2]; exact h
  rw [ifc_f c2, ifc_f c2]
  by_cases c3 : lw (t.2.1 p) (tn (t.1 p)) (tn (gl p)) < 0
  · rw [ifc_t c3, ifc_t c3]; exact h
  rw [ifc_f c3, ifc_f c3]
  by_cases c4 : 0 < Wl ga kd vv rw pp ns ho t.1 t.2.1 p (fstC (t.2.1 p) (tn (t.1 p)) (tn (gl p)))
  · rw [ifc_t c4, ifc_t c4]
    intro q hq
    obtain ⟨f1, f2, f3⟩ := h q hq
    refine ⟨?_, f2, f3⟩
    by_cases hqp : q = p
    · subst hqp; exact (up_at _ _ _).trans (up_at _ _ _).symm
    · exact (up_off _ _ hqp).trans (f1.trans (up_off _ _ hqp).symm)
  rw [ifc_f c4, ifc_f c4]
  intro q hq
  obtain ⟨f1, f2, f3⟩ := h q hq
  refine ⟨f1, ?_, ?_⟩
  · by_cases hqp : q = p
    · subst hqp; exact (up_at _ _ _).trans (up_at _ _ _).symm
    · exact (up_off _ _ hqp).trans (f2.trans (up_off _ _ hqp).symm)
  · by_cases hqp : q = p
    · subst hqp; exact (up_at _ _ _).trans (up_at _ _ _).symm
    · exact (up_off _ _ hqp).trans (f3.trans (up_off _ _ hqp).symm)
theorem cgN_q (hn : ∀ o, o < pp → ¬ (kd o = 4 ∧ hb go o)) {ho : Int32} {s t : T3} (h : agr (hb go) s t) : ∀ i, i ≤ pp → agr (hb go) (cgN go ga kd vv gl rw pp ns less ho s i) (goN ga kd vv gl rw pp ns less ho t i)
  | 0, _ => h
  | i + 1, hi => by
    have ih := cgN_q hn (ho := ho) h i (by omega)
    by_cases hg : hb go i
    · rw [cgN_t hg, goN]
      exact go1_q ih hg (fun e => hn i (by omega) ⟨e, hg⟩)
    · rw [cgN_f hg, goN]
      intro q hq
      obtain ⟨a1, a2, a3⟩ := ih q hq
      obtain ⟨b1, b2, b3⟩ := go1_at (ga := ga) (kd := kd) (vv := vv) (gl := gl) (rw := rw) (pp := pp) (ns := ns) (ho := ho) (less := less) (s := goN ga kd vv gl rw pp ns less ho t i) (p := i) (q := q) (fun e => hg (by rw [← e]; exact hq))
      exact ⟨a1.trans b1.symm, a2.trans b2.symm, a3.trans b3.symm⟩
theorem chr1_q (hn : ∀ o, o < pp → ¬ (kd o = 4 ∧ hb go o)) {z y : ZH} (h2 : z.2 = y.2) (h : agr (hb go) z.1 y.1) : (chr1 go ga kd vv gl rw pp ns fd less z).2 = (hour1 ga kd vv gl rw pp ns fd less y).2 ∧ agr (hb go) (chr1 go ga kd vv gl rw pp ns fd less z).1 (hour1 ga kd vv gl rw pp ns fd less y).1 := by
  have h3 := cgN_q (ga := ga) (vv := vv) (gl := gl) (rw := rw) (ns := ns) (less := less) hn (ho := y.2) h pp (Nat.le_refl _)
  by_cases c : 0 < fd ∧ y.2 - y.2 / fd * fd = 0
  · rw [chr1_t (by rw [h2]; exact c), hour1_t c, h2]
    refine ⟨rfl, fun q hq => ?_⟩
    obtain ⟨a1, a2, a3⟩ := h3 q hq
    refine ⟨a1, ?_, a3⟩
    dsimp only [cpn]
    by_cases hqp : q < pp
    · rw [if_pos hqp, if_pos hqp, a2]
    · rw [if_neg hqp, if_neg hqp]; exact a2
  · rw [chr1_f (by rw [h2]; exact c), hour1_f c, h2]
    exact ⟨rfl, h3⟩
theorem chrN_q (hn : ∀ o, o < pp → ¬ (kd o = 4 ∧ hb go o)) {z y : ZH} (h2 : z.2 = y.2) (h : agr (hb go) z.1 y.1) : ∀ k, (chrN go ga kd vv gl rw pp ns fd less z k).2 = (hrN ga kd vv gl rw pp ns fd less y k).2 ∧ agr (hb go) (chrN go ga kd vv gl rw pp ns fd less z k).1 (hrN ga kd vv gl rw pp ns fd less y k).1
  | 0 => ⟨h2, h⟩
  | k + 1 => by
    obtain ⟨a, b⟩ := chrN_q hn h2 h k
    rw [chrN, hrN]
    exact chr1_q hn a b
theorem gng_or (kd : Nat → Int32) (lk : Int32) : ∀ n, gng kd lk n = 63 ∨ (gng kd lk n = lk ∧ ∀ o, o < n → ¬ (kd o = 4 ∧ hb lk o))
  | 0 => Or.inr ⟨rfl, fun o h => absurd h (Nat.not_lt_zero o)⟩
  | n + 1 => by
    by_cases h : kd n = 4 ∧ hb lk n
    · exact Or.inl (gng_t h)
    · rw [gng_f h]
      rcases gng_or kd lk n with e | ⟨e, q⟩
      · exact Or.inl e
      · refine Or.inr ⟨e, fun o ho => ?_⟩
        by_cases ho2 : o = n
        · rw [ho2]; exact h
        · exact q o (by omega)
/-- whoever is looked at in a trial is as it would be -/
theorem tri_q (hpp : pp ≤ 6) {s0 : T3} {ho lk : Int32} (hs : nbd 9999 s0) {k : Nat} (hk : k ≤ 41) {q : Nat} (hq : hb lk q) :
    (chrN (gng kd lk pp) ga kd vv gl rw pp ns fd (lessC 1000000) (s0, ho) k).1.1 q = (hrN ga kd vv (gF gl) rw pp ns fd (lessM 2000000000) (s0, ho) k).1.1 q ∧
    (chrN (gng kd lk pp) ga kd vv gl rw pp ns fd (lessC 1000000) (s0, ho) k).1.2.1 q = (hrN ga kd vv (gF gl) rw pp ns fd (lessM 2000000000) (s0, ho) k).1.2.1 q ∧
    (chrN (gng kd lk pp) ga kd vv gl rw pp ns fd (lessC 1000000) (s0, ho) k).1.2.2 q = (hrN ga kd vv (gF gl) rw pp ns fd (lessM 2000000000) (s0, ho) k).1.2.2 q := by
  rw [(chrN_eq (go := gng kd lk pp) (ga := ga) (kd := kd) (vv := vv) (gl := gl) (rw := rw) (ns := ns) (fd := fd) lsq_trial hpp (z := (s0, ho)) (Nat.zero_le _) hs k (by omega)).1]
  rcases gng_or kd lk pp with e | ⟨e, hn⟩
  · rw [e, chrN_63 hpp k]; exact ⟨rfl, rfl, rfl⟩
  · rw [e]
    exact (chrN_q (go := lk) hn (z := (s0, ho)) (y := (s0, ho)) rfl (fun _ _ => ⟨rfl, rfl, rfl⟩) k).2 q hq
end
