/-! hours: in a trial those who are looked at go as they all go -/
noncomputable def gF (f : Nat → Int32) : Nat → Int32 := fun j => ifc (f j < 0) (-5) (f j)
theorem gF_n {f : Nat → Int32} {j : Nat} (h : f j < 0) : gF f j = -5 := ifc_t h
theorem gF_p {f : Nat → Int32} {j : Nat} (h : ¬ f j < 0) : gF f j = f j := ifc_f h
theorem gF_lt {f : Nat → Int32} {j : Nat} : gF f j < 0 ↔ f j < 0 := by
  by_cases h : f j < 0
  · rw [gF_n h]; exact ⟨fun _ => h, fun _ => by decide⟩
  · rw [gF_p h]
theorem gF_ok {f : Nat → Int32} (h : okG f) : okG (gF f) := by
  intro p hp
  rcases h p hp with q | ⟨c, hc, e⟩
  · exact Or.inl (gF_lt.mpr q)
  · by_cases q : f p < 0
    · exact Or.inl (gF_lt.mpr q)
    · exact Or.inr ⟨c, hc, by rw [gF_p q]; exact e⟩
/-- noes up to so many -/
def nbd (b : Nat) (s : T3) : Prop := ∀ q, q < 6 → ∃ k, k ≤ b ∧ s.2.2 q = nI k
/-- two ways of counting noes that are one up to a bound; a step adds at most e -/
def lsq (lc lm : Int32 → Int32) (e b0 mx : Nat) : Prop := ∀ b, b0 ≤ b → b ≤ mx → ∀ k, k ≤ b → lc (nI k) = lm (nI k) ∧ ∃ j, j ≤ b + e ∧ lm (nI k) = nI j
theorem lsC {k mo : Nat} (hk : k < 2 ^ 31) (hm : mo < 2 ^ 31) : lessC (nI mo) (nI k) = if k < mo then nI (k + 1) else nI k := by
  unfold lessC
  by_cases h : k < mo
  · rw [if_pos h, ifc_t ((nI_ltI hk hm).mpr h)]; exact nI_1 k
  · rw [if_neg h, ifc_f (fun q => h ((nI_ltI hk hm).mp q))]
theorem lsM {k mo : Nat} (hk : k + 1 < 2 ^ 31) (hm : mo < 2 ^ 31) : lessM (nI mo) (nI k) = if k + 1 < mo then nI (k + 1) else nI mo := by
  unfold lessM
  rw [show nI k + 1 = nI (k + 1) from nI_1 k]
  by_cases h : k + 1 < mo
  · rw [if_pos h, if_pos ((nI_ltI hk hm).mpr h)]
  · rw [if_neg h, if_neg (fun q => h ((nI_ltI hk hm).mp q))]
theorem lsq_trial : lsq (lessC 1000000) (lessM 2000000000) 1 0 100000 := by
  intro b _ hb k hk
  show lessC (nI 1000000) (nI k) = lessM (nI 2000000000) (nI k) ∧ ∃ j, j ≤ b + 1 ∧ lessM (nI 2000000000) (nI k) = nI j
  rw [lsC (by omega) (by omega), lsM (by omega) (by omega), if_pos (by omega), if_pos (by omega)]
  exact ⟨rfl, k + 1, by omega, rfl⟩
theorem lsq_real : lsq (lessC 9999) (lessM 9999) 0 9999 9999 := by
  intro b hb0 hb k hk
  have e : b = 9999 := by omega
  subst e
  show lessC (nI 9999) (nI k) = lessM (nI 9999) (nI k) ∧ ∃ j, j ≤ 9999 + 0 ∧ lessM (nI 9999) (nI k) = nI j
  rw [lsC (by omega) (by omega), lsM (by omega) (by omega)]
  by_cases h1 : k + 1 < 9999
  · rw [if_pos (by omega), if_pos h1]; exact ⟨rfl, k + 1, by omega, rfl⟩
  · rw [if_neg h1]
    by_cases h2 : k < 9999
    · rw [if_pos h2, show k + 1 = 9999 by omega]; exact ⟨rfl, 9999, by omega, rfl⟩
    · rw [if_neg h2, show k = 9999 by omega]; exact ⟨rfl, 9999, by omega, rfl⟩
section
variable {ga kd vv gl rw : Nat → Int32} {pp : Nat} {ns : (Int32 → Int32) → Int32 → Int32} {fd : Int32} {lc lm : Int32 → Int32} {go : Int32}
/-- go1, where noes are counted in one of two ways and a missing goal told in one of two ways -/
theorem go1_eq {ho : Int32} {s : T3} {p : Nat} (h : lc (s.2.2 p) = lm (s.2.2 p)) : go1 ga kd vv gl rw pp ns ho lc s p = go1 ga kd vv (gF gl) rw pp ns ho lm s p := by
  by_cases hn : gl p < 0
  · rw [go1_a hn, go1_a (gF_lt.mpr hn)]
  · unfold go1
    rw [gF_p hn, h]
theorem go1_no {ho : Int32} {s : T3} {p : Nat} {b e : Nat} (hs : nbd b s) (hp : p < 6) (he : ∃ j, j ≤ b + e ∧ lm (s.2.2 p) = nI j) : nbd (b + e) (go1 ga kd vv gl rw pp ns ho lm s p) := by
  have h0 : nbd (b + e) s := fun q hq => by obtain ⟨k, hk, ek⟩ := hs q hq; exact ⟨k, by omega, ek⟩
  unfold go1
  by_cases c1 : gl p < 0
  · rw [ifc_t c1]; exact h0
  rw [ifc_f c1]
  by_cases c2 : gl p = s.1 p
  · rw [ifc_t c2]; exact h0
  rw [ifc_f c2]
  by_cases c3 : lw (s.2.1 p) (tn (s.1 p)) (tn (gl p)) < 0
  · rw [ifc_t c3]; exact h0
  rw [ifc_f c3]
  by_cases c4 : 0 < Wl ga kd vv rw pp ns ho s.1 s.2.1 p (fstC (s.2.1 p) (tn (s.1 p)) (tn (gl p)))
  · rw [ifc_t c4]; exact h0
  rw [ifc_f c4]
  intro q hq
  by_cases hqp : q = p
  · subst hqp
    obtain ⟨j, hj, ej⟩ := he
    exact ⟨j, hj, (up_at _ _ _).trans ej⟩
  · obtain ⟨k, hk, ek⟩ := h0 q hq
    exact ⟨k, hk, (up_off _ _ hqp).trans ek⟩
theorem cgN_eq {e b0 mx : Nat} (hl : lsq lc lm e b0 mx) {ho : Int32} {s : T3} {b : Nat} (h0 : b0 ≤ b) (hs : nbd b s) : ∀ i, i ≤ 6 → b + e * i ≤ mx → cgN go ga kd vv gl rw pp ns lc ho s i = cgN go ga kd vv (gF gl) rw pp ns lm ho s i ∧ nbd (b + e * i) (cgN go ga kd vv (gF gl) rw pp ns lm ho s i)
  | 0, _, _ => ⟨rfl, hs⟩
  | i + 1, hi, hbb => by
    rw [Nat.mul_succ] at hbb ⊢
    obtain ⟨r1, r2⟩ := cgN_eq hl h0 hs i (by omega) (by omega)
    have mono : nbd (b + (e * i + e)) (cgN go ga kd vv (gF gl) rw pp ns lm ho s i) := fun q hq => by obtain ⟨k, hk, ek⟩ := r2 q hq; exact ⟨k, by omega, ek⟩
    by_cases h : hb go i
    · rw [cgN_t h, cgN_t h, r1]
      obtain ⟨k, hk, ek⟩ := r2 i (by omega)
      obtain ⟨l1, l2⟩ := hl (b + e * i) (by omega) (by omega) k hk
      rw [← ek] at l1 l2
      exact ⟨go1_eq l1, by rw [← Nat.add_assoc]; exact go1_no r2 (by omega) l2⟩
    · rw [cgN_f h, cgN_f h]; exact ⟨r1, mono⟩
theorem chr1_eq {e b0 mx : Nat} (hl : lsq lc lm e b0 mx) (hpp : pp ≤ 6) {z : ZH} {b : Nat} (h0 : b0 ≤ b) (hs : nbd b z.1) (hbb : b + e * 6 ≤ mx) : chr1 go ga kd vv gl rw pp ns fd lc z = chr1 go ga kd vv (gF gl) rw pp ns fd lm z ∧ nbd (b + e * 6) (chr1 go ga kd vv (gF gl) rw pp ns fd lm z).1 := by
  have hle : e * pp ≤ e * 6 := Nat.mul_le_mul_left e hpp
  obtain ⟨r1, r2⟩ := cgN_eq (go := go) (ga := ga) (kd := kd) (vv := vv) (gl := gl) (rw := rw) (pp := pp) (ns := ns) hl (ho := z.2) h0 hs pp hpp (by omega)
  have mono : nbd (b + e * 6) (cgN go ga kd vv (gF gl) rw pp ns lm z.2 z.1 pp) := fun q hq => by obtain ⟨k, hk, ek⟩ := r2 q hq; exact ⟨k, by omega, ek⟩
  by_cases h : 0 < fd ∧ z.2 - z.2 / fd * fd = 0
  · rw [chr1_t h, chr1_t h, r1]; exact ⟨rfl, mono⟩
  · rw [chr1_f h, chr1_f h, r1]; exact ⟨rfl, mono⟩
theorem chrN_eq {e b0 mx : Nat} (hl : lsq lc lm e b0 mx) (hpp : pp ≤ 6) {z : ZH} {b : Nat} (h0 : b0 ≤ b) (hs : nbd b z.1) : ∀ k, b + e * 6 * k ≤ mx → chrN go ga kd vv gl rw pp ns fd lc z k = chrN go ga kd vv (gF gl) rw pp ns fd lm z k ∧ nbd (b + e * 6 * k) (chrN go ga kd vv (gF gl) rw pp ns fd lm z k).1
  | 0, _ => ⟨rfl, hs⟩
  | k + 1, hbb => by
    rw [Nat.mul_succ] at hbb ⊢
    obtain ⟨r1, r2⟩ := chrN_eq hl hpp h0 hs k (by omega)
    obtain ⟨q1, q2⟩ := chr1_eq (go := go) (ga := ga) (kd := kd) (vv := vv) (gl := gl) (rw := rw) (ns := ns) (fd := fd) hl hpp (by omega) r2 (by omega)
    rw [chrN, chrN, r1, q1]
    exact ⟨rfl, by rw [← Nat.add_assoc]; exact q2⟩
theorem hb_63 : ∀ i, i < 6 → hb 63 i := by unfold hb; decide
theorem cgN_63 {less : Int32 → Int32} {ho : Int32} {s : T3} : ∀ i, i ≤ 6 → cgN 63 ga kd vv gl rw pp ns less ho s i = goN ga kd vv gl rw pp ns less ho s i
  | 0, _ => rfl
  | i + 1, hi => by rw [cgN_t (hb_63 i (by omega)), cgN_63 i (by omega), goN]
theorem chr1_63 {less : Int32 → Int32} (hpp : pp ≤ 6) {z : ZH} : chr1 63 ga kd vv gl rw pp ns fd less z = hour1 ga kd vv gl rw pp ns fd less z := by
  unfold chr1 hour1
  rw [cgN_63 pp hpp]
theorem chrN_63 {less : Int32 → Int32} (hpp : pp ≤ 6) {z : ZH} : ∀ k, chrN 63 ga kd vv gl rw pp ns fd less z k = hrN ga kd vv gl rw pp ns fd less z k
  | 0 => rfl
  | k + 1 => by rw [chrN, hrN, chr1_63 hpp, chrN_63 hpp k]
end
