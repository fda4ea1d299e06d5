theorem neg_div10 {x : Int32} (h : x < 0) : (x / 10).toInt ≤ 0 := by
  have h := Int32.lt_iff_toInt_lt.mp h
  rw [show ((0 : Int32)).toInt = 0 from rfl] at h
  rw [Int32.toInt_div_of_ne_right _ _ (by decide), show ((10 : Int32)).toInt = 10 from rfl, show x.toInt = -(-x.toInt) by omega, Int.neg_tdiv, Int.tdiv_eq_ediv_of_nonneg (by omega)]
  omega
theorem neg_two {x : Int32} {n : Nat} (h : x < 0) : ¬ (inr (x / 10) n ∧ inr (x - x / 10 * 10) n) := by
  intro ⟨h1, h2⟩
  have h3 := neg_div10 h
  have e : x / 10 = 0 := Int32.toInt_inj.mp (by have := h1.1; rw [show ((0 : Int32)).toInt = 0 from rfl]; omega)
  rw [e, Int32.zero_mul, Int32.sub_zero] at h2
  have h := Int32.lt_iff_toInt_lt.mp h
  rw [show ((0 : Int32)).toInt = 0 from rfl] at h
  have := h2.1
  omega
theorem nn_nI {x : Int32} (h : ¬ x < 0) : x = nI (tn x) ∧ tn x < 2 ^ 31 := by
  have h0 := nlt0 h
  have h1 := tn_int h0
  have h2 := Int32.toInt_lt x
  exact ⟨nI_tn h0, by omega⟩
theorem nn_not {a : Nat} (h : a < 2 ^ 31) : ¬ nI a < 0 := fun q => by
  have q := Int32.lt_iff_toInt_lt.mp q
  rw [nI_toInt h, show ((0 : Int32)).toInt = 0 from rfl] at q; omega
/-- both take the same rows of a plan -/
theorem plan_iff {pp : Nat} (hpp : pp ≤ 6) (wz nz : Int32) : planC pp wz nz ↔ plnC pp wz nz := by
  unfold planC plnC
  constructor
  · rintro ⟨h1, h2, h3⟩
    have hl := inr_lt h1
    have he := inr_nI h1
    have h4 : tn wz = 0 ∨ tn wz = 1 ∨ tn wz = 2 ∨ tn wz = 3 := by omega
    rcases h4 with e | e | e | e
    · exact Or.inl (he.trans (by rw [e]; rfl))
    · exact Or.inr (Or.inl ⟨Or.inl (he.trans (by rw [e]; rfl)), Classical.byContradiction (fun q => h2 ⟨by rw [e], q⟩)⟩)
    · refine Or.inr (Or.inr ⟨he.trans (by rw [e]; rfl), Classical.byContradiction (fun q => h3 ⟨e, Or.inr (Or.inl q)⟩), Classical.byContradiction (fun q => h3 ⟨e, Or.inr (Or.inr q)⟩)⟩)
    · exact Or.inr (Or.inl ⟨Or.inr (he.trans (by rw [e]; rfl)), Classical.byContradiction (fun q => h2 ⟨by rw [e], q⟩)⟩)
  · rintro (e | ⟨e | e, h⟩ | ⟨e, h1, h2⟩)
    · subst e; exact ⟨⟨by decide, by decide⟩, fun q => absurd q.1 (by decide), fun q => absurd q.1 (by decide)⟩
    · subst e; exact ⟨⟨by decide, by decide⟩, fun q => q.2 h, fun q => absurd q.1 (by decide)⟩
    · subst e; exact ⟨⟨by decide, by decide⟩, fun q => q.2 h, fun q => absurd q.1 (by decide)⟩
    · subst e
      refine ⟨⟨by decide, by decide⟩, fun q => absurd q.1 (by decide), fun q => ?_⟩
      rcases q.2 with w | w | w
      · exact neg_two w ⟨h1, h2⟩
      · exact w h1
      · exact w h2
/-- both take the same questions -/
theorem on_iff {pp : Nat} (hpp : pp ≤ 6) (wz : Int32) : onC pp wz ↔ (¬ (wz / 10) < 1 ∧ ¬ 3 < (wz / 10) ∧ inr (wz - wz / 10 * 10) pp) := by
  by_cases hn : wz < 0
  · have h1 := neg_div10 hn
    have hn2 := Int32.lt_iff_toInt_lt.mp hn
    rw [show ((0 : Int32)).toInt = 0 from rfl] at hn2
    constructor
    · intro h
      exfalso
      have key : ∀ k : Int32, 0 ≤ k.toInt → k ≤ wz → False := fun k hk q => by
        have q := Int32.le_iff_toInt_le.mp q
        omega
      rcases h with q | q | q
      · exact key 10 (by decide) q.1
      · exact key 20 (by decide) q.1
      · exact key 30 (by decide) q.1
    · intro h
      exfalso
      exact h.1 (Int32.lt_iff_toInt_lt.mpr (by rw [show ((1 : Int32)).toInt = 1 from rfl]; omega))
  · obtain ⟨e, hl⟩ := nn_nI hn
    generalize tn wz = w at e hl
    subst e
    have e1 : nI w / 10 = nI (w / 10) := pk_div hl (by decide) (by decide)
    have e2 : nI w - nI w / 10 * 10 = nI (w % 10) := pk_rem hl (by decide) (by decide)
    rw [e2, e1]
    unfold onC
    show ((nI 10 ≤ nI w ∧ _) ∨ (nI 20 ≤ nI w ∧ _) ∨ (nI 30 ≤ nI w ∧ _)) ↔ (¬ nI (w / 10) < nI 1 ∧ ¬ nI 3 < nI (w / 10) ∧ _)
    rw [nI_leI (by omega) hl, nI_leI (by omega) hl, nI_leI (by omega) hl, nI_leI hl (by omega), nI_leI hl (by omega), nI_leI hl (by omega), nI_ltI (by omega) (by omega), nI_ltI (by omega) (by omega), inr_of_nI (by omega)]
    omega
section
variable {M I : Ty} {nl : Nat → Nat} {na pp : Nat}
theorem hT_0 (h : EQ M I nl na) (k : Nat) : hrN (M 66) (M 67) (M 68) (M 70) (M 73) pp (msum M) (mfade M) (lessM 2000000000) (mgetH M) k = hT I nl na pp (I 24) (I 26) (I 27) k := by
  have h2 := hT_eq (pp := pp) h (I 24) (I 26) (I 27) k
  rw [← h2]
  obtain ⟨h0, h1, h3, h4, h5, h6, h7, h8, h9, h10, h11⟩ := h
  show hrN (M 66) (M 67) (M 68) (M 70) (M 73) pp (msum M) (mfade M) (lessM 2000000000) ((M 69, M 71, M 72), M 65 1) k = _
  rw [h0, h3, h4]
theorem on_eq (h : EQ M I nl na) (hpp : pp ≤ 6) (hs : nbd 9999 (mgC23 I)) {wz : Int32} {k : Nat} (hk : k ≤ 41) (hc : ¬ (wz / 10) < 1 ∧ ¬ 3 < (wz / 10) ∧ inr (wz - wz / 10 * 10) pp) :
    onW M pp k (tn wz) = ifc ((wz / 10) = 1) ((chT I nl na pp (I 24) (I 26) (I 27) (1 <<< ((wz - wz / 10 * 10) &&& 31)) k).1.1 (tn (wz - wz / 10 * 10))) (ifc ((wz / 10) = 2) ((chT I nl na pp (I 24) (I 26) (I 27) (1 <<< ((wz - wz / 10 * 10) &&& 31)) k).1.2.1 (tn (wz - wz / 10 * 10))) ((chT I nl na pp (I 24) (I 26) (I 27) (1 <<< ((wz - wz / 10 * 10) &&& 31)) k).1.2.2 (tn (wz - wz / 10 * 10)))) := by
  have hn : ¬ wz < 0 := fun q => by
    have := neg_div10 q
    exact hc.1 (Int32.lt_iff_toInt_lt.mpr (by rw [show ((1 : Int32)).toInt = 1 from rfl]; omega))
  obtain ⟨e, hl⟩ := nn_nI hn
  generalize tn wz = w at e hl ⊢
  subst e
  have e1 : nI w / 10 = nI (w / 10) := pk_div hl (by decide) (by decide)
  have e2 : nI w - nI w / 10 * 10 = nI (w % 10) := pk_rem hl (by decide) (by decide)
  rw [e2, e1] at hc ⊢
  have hc1 : ¬ nI (w / 10) < nI 1 ∧ ¬ nI 3 < nI (w / 10) ∧ inr (nI (w % 10)) pp := hc
  rw [nI_ltI (by omega) (by omega), nI_ltI (by omega) (by omega), inr_of_nI (by omega)] at hc1
  obtain ⟨q1, q2, q3⟩ := ch_hT (na := na) (nl := nl) hpp hs (ga := I 24) (vv := I 26) (sp := I 27) hk (hb1 (p := w % 10) (by omega))
  rw [tn_nI (by omega), q1, q2, q3]
  unfold onW
  rw [hT_0 h]
  by_cases c1 : w / 10 = 1
  · rw [ifc_t (show w < 20 by omega), ifc_t (show nI (w / 10) = 1 by rw [c1]; rfl), show w - 10 = w % 10 by omega]
  · rw [ifc_f (show ¬ w < 20 by omega), ifc_f (show ¬ nI (w / 10) = 1 from fun q => c1 ((nI_eq (a := w / 10) (b := 1) (by omega) (by omega)).mp q))]
    by_cases c2 : w / 10 = 2
    · rw [ifc_t (show w < 30 by omega), ifc_t (show nI (w / 10) = 2 by rw [c2]; rfl), show w - 20 = w % 10 by omega]
    · rw [ifc_f (show ¬ w < 30 by omega), ifc_f (show ¬ nI (w / 10) = 2 from fun q => c2 ((nI_eq (a := w / 10) (b := 2) (by omega) (by omega)).mp q)), show w - 30 = w % 10 by omega]
theorem chF_one {ch : Nat → Int32} {q : Nat} (hq : q < 6) : ∀ n, n ≤ 6 → chF ch ((1 : Int32) <<< (nI q &&& 31)) n = if q < n then ch q else 0
  | 0, _ => by rw [if_neg (Nat.not_lt_zero q)]; rfl
  | n + 1, hn => by
    rw [chF, chF_one hq n (by omega)]
    by_cases h : n = q
    · subst h
      rw [ifc_t ((hb_one (by omega) (by omega)).mpr rfl), if_neg (Nat.lt_irrefl n), if_pos (Nat.lt_succ_self n), Int32.zero_or]
    · rw [ifc_f (fun w => h ((hb_one (by omega) (by omega)).mp w))]
      by_cases h2 : q < n
      · rw [if_pos h2, if_pos (by omega)]
      · rw [if_neg h2, if_neg (by omega)]
theorem gF_up (f : Nat → Int32) (q : Nat) {x : Int32} (hx : x < 0) : gF (va_up f q x) = va_up (gF f) q (-5) := by
  funext j
  unfold gF va_up
  by_cases h : j = q
  · rw [if_pos h, if_pos h, ifc_t hx]
  · rw [if_neg h, if_neg h]
theorem gF_up2 (f : Nat → Int32) (q : Nat) {x : Int32} (hx : ¬ x < 0) : gF (va_up f q x) = va_up (gF f) q x := by
  funext j
  unfold gF va_up
  by_cases h : j = q
  · rw [if_pos h, if_pos h, ifc_f hx]
  · rw [if_neg h, if_neg h]
/-- a row of a plan told on both sides -/
def PQ (pp : Nat) (f a b : Nat → Int32) (kn : Nat) : Prop := ∀ k, k < kn → ∃ w, w < 4 ∧ f (3 * k) = nI w ∧ a k = nI w ∧ plnOK pp w (f (3 * k + 1)) ∧ b k = if w = 0 then 0 else f (3 * k + 1)
variable {ga kd vv rw : Nat → Int32} {ns : (Int32 → Int32) → Int32 → Int32} {fd : Int32}
theorem plN_eq (hpp : pp ≤ 6) {f a b : Nat → Int32} {kn : Nat} (hkn : kn ≤ 8) (hP : PQ pp f a b kn) {z : ZH} {gl : Nat → Int32} (hs : nbd 9999 z.1) : ∀ k, k ≤ kn →
    (plN ga kd vv rw pp ns fd (lessM 2000000000) a b (z, gF gl) k).1 = (plNC 63 ga kd vv rw pp ns fd (lessC 1000000) f (z, gl) k).1 ∧
    (plN ga kd vv rw pp ns fd (lessM 2000000000) a b (z, gF gl) k).2 = gF (plNC 63 ga kd vv rw pp ns fd (lessC 1000000) f (z, gl) k).2 ∧
    nbd (9999 + 6 * k) (plNC 63 ga kd vv rw pp ns fd (lessC 1000000) f (z, gl) k).1.1
  | 0, _ => ⟨rfl, rfl, hs⟩
  | k + 1, hk => by
    obtain ⟨r1, r2, r3⟩ := plN_eq hpp hkn hP (gl := gl) hs k (by omega)
    obtain ⟨w, hw, ef, ea, hx, eb⟩ := hP k (by omega)
    rw [plN, plNC, ef, ea, eb, tn_nI (by omega)]
    generalize plN ga kd vv rw pp ns fd (lessM 2000000000) a b (z, gF gl) k = y' at r1 r2 ⊢
    generalize plNC 63 ga kd vv rw pp ns fd (lessC 1000000) f (z, gl) k = y at r1 r2 r3 ⊢
    obtain ⟨y1, y2⟩ := y
    obtain ⟨x1, x2⟩ := y'
    have r1 : x1 = y1 := r1
    have r2 : x2 = gF y2 := r2
    subst r1; subst r2
    have mono : nbd (9999 + 6 * (k + 1)) x1.1 := fun q hq => by obtain ⟨m, hm, em⟩ := r3 q hq; exact ⟨m, by omega, em⟩
    unfold plan1 plan1C
    match w, hw with
    | 0, _ =>
      rw [ifc_t rfl, ifc_t rfl]
      obtain ⟨q1, q2⟩ := chr1_eq (go := 63) (ga := ga) (kd := kd) (vv := vv) (gl := y2) (rw := rw) (ns := ns) (fd := fd) lsq_trial hpp (z := x1) (Nat.zero_le _) r3 (by omega)
      rw [chr1_63 hpp] at q2
      have q1 := q1.trans (chr1_63 hpp)
      refine ⟨q1.symm, rfl, ?_⟩
      show nbd _ (chr1 63 ga kd vv y2 rw pp ns fd (lessC 1000000) x1).1
      rw [q1]
      exact fun q hq => by obtain ⟨m, hm, em⟩ := q2 q hq; exact ⟨m, by omega, em⟩
    | 1, _ =>
      rw [ifc_f (by decide), ifc_t rfl, ifc_f (by decide), ifc_t rfl, if_neg (by decide)]
      exact ⟨rfl, rfl, mono⟩
    | 2, _ =>
      obtain ⟨q, eq, hq, hc⟩ := hx.resolve_left (by decide)
      have hc2 : q / 10 < pp ∧ q % 10 < pp := by
        rcases hc with ⟨w, _⟩ | ⟨_, w⟩ | ⟨w, _⟩
        · exact absurd w (by decide)
        · exact w
        · exact absurd w (by decide)
      rw [ifc_f (by decide), ifc_f (by decide), ifc_t rfl, ifc_f (by decide), ifc_f (by decide), ifc_t rfl, if_neg (by decide), eq, tn_nI hq]
      have e := chF_one (ch := x1.1.2.1) (q := q % 10) (by omega) pp hpp
      rw [if_pos hc2.2] at e
      rw [e]
      exact ⟨rfl, rfl, mono⟩
    | 3, _ =>
      rw [ifc_f (by decide), ifc_f (by decide), ifc_f (by decide), ifc_f (by decide), ifc_f (by decide), ifc_f (by decide), if_neg (by decide)]
      exact ⟨rfl, (gF_up _ _ (by decide)).symm, mono⟩
end
