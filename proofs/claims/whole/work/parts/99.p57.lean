section
variable {M I : Ty} {nl : Nat → Nat} {na pp : Nat}
/-- what is seen is told alike -/
def SQ (M I : Ty) (pp sn : Nat) : Prop := ∀ k, k < sn → (∃ w, w < pp ∧ I 3 (3 * k) = nI w) ∧ (∃ t, t ≤ 12 ∧ I 3 (3 * k + 1) = nI t) ∧ M 89 k = I 3 (3 * k) ∧ M 90 k = I 3 (3 * k + 1) ∧ M 91 k = I 3 (3 * k + 2)
theorem snO_hb {f : Nat → Int32} {w : Nat} (hw : w < 32) : ∀ n k, k < n → f (3 * k) = nI w → hb (snO f n) w
  | 0, _, h, _ => absurd h (Nat.not_lt_zero _)
  | n + 1, k, h, e => by
    rw [snO]
    by_cases hk : k = n
    · subst hk
      rw [e]
      exact (hb_or hw).mpr (Or.inr ((hb_one hw hw).mpr rfl))
    · exact (hb_or hw).mpr (Or.inl (snO_hb hw n k (by omega) e))
/-- both say of a trial alike whether all that is seen is so -/
theorem seen_iff (h : EQ M I nl na) (hpp : pp ≤ 6) (hs : nbd 9999 (mgC23 I)) {sn : Nat} (hq : SQ M I pp sn) (vv sp : Nat → Int32) :
    (∀ k, k < sn → (chT I nl na pp (I 24) vv sp (snO (I 3) sn) (tn (I 3 (3 * k + 1)))).1.1 (tn (I 3 (3 * k))) = I 3 (3 * k + 2)) ↔
    ∀ k, k < sn → (hrN (M 66) (M 67) vv (M 70) (M 73) pp (msum M) (mfade M) (lessM 2000000000) ((sp, M 71, M 72), M 65 1) (tn (M 90 k))).1.1 (tn (M 89 k)) = M 91 k := by
  refine forall_congr' (fun k => forall_congr' (fun hk => ?_))
  obtain ⟨⟨w, hw, ew⟩, ⟨t, ht, et⟩, e1, e2, e3⟩ := hq k hk
  rw [hT_eq h, h.1, e1, e2, e3, ew, et, tn_nI (by omega), tn_nI (by omega)]
  rw [(ch_hT hpp hs (by omega) (snO_hb (by omega) sn k hk ew)).1]
theorem from_eq (h : EQ M I nl na) (hpp : pp ≤ 6) (hs : nbd 9999 (mgC23 I)) {sn p : Nat} (hq : SQ M I pp sn) : ∀ c, fromF M pp sn p c = bsC (fun c => ∀ k, k < sn → (chT I nl na pp (I 24) (I 26) (va_up (I 27) p (nI c)) (snO (I 3) sn) (tn (I 3 (3 * k + 1)))).1.1 (tn (I 3 (3 * k))) = I 3 (3 * k + 2)) c
  | 0 => rfl
  | c + 1 => by
    have ih := from_eq h hpp hs (p := p) hq c
    have e : seenP (wr M 69 p (nI c)) pp sn ↔ ∀ k, k < sn → (chT I nl na pp (I 24) (I 26) (va_up (I 27) p (nI c)) (snO (I 3) sn) (tn (I 3 (3 * k + 1)))).1.1 (tn (I 3 (3 * k))) = I 3 (3 * k + 2) := by
      rw [seen_iff h hpp hs hq (I 26) (va_up (I 27) p (nI c)), ← h.2.2.1, ← h.2.2.2.1]
      exact Iff.rfl
    rw [fromF, bsC, ih]
    by_cases q : ∀ k, k < sn → (chT I nl na pp (I 24) (I 26) (va_up (I 27) p (nI c)) (snO (I 3) sn) (tn (I 3 (3 * k + 1)))).1.1 (tn (I 3 (3 * k))) = I 3 (3 * k + 2)
    · rw [ifc_t (e.mpr q), ifc_t q]
    · rw [ifc_f (fun w => q (e.mp w)), ifc_f q, Int32.or_zero]
/-- how many of the first n -/
noncomputable def cP (P : Nat → Prop) : Nat → Nat
  | 0 => 0
  | n + 1 => cP P n + ifc (P n) 1 0
theorem bitc_cP {P : Nat → Prop} {x : Int32} {m : Nat} : ∀ n, (∀ c, c < n → (hb x c ↔ c < m ∧ P c)) → bitc x n = cP P (min n m)
  | 0, _ => by rw [Nat.zero_min]; rfl
  | n + 1, h => by
    rw [bitc, bitc_cP n (fun c hc => h c (by omega))]
    by_cases hn : n < m
    · rw [show min (n + 1) m = n + 1 by omega, show min n m = n by omega, cP]
      rw [ifc_congr (h n (by omega)), ifc_congr (show (n < m ∧ P n) ↔ P n from ⟨fun q => q.2, fun q => ⟨hn, q⟩⟩)]
    · rw [show min (n + 1) m = m by omega, show min n m = m by omega, ifc_f (fun q => hn ((h n (by omega)).mp q).1), Nat.add_zero]
noncomputable def canP (P : Nat → Prop) : Nat → Nat × Int32
  | 0 => (0, -5)
  | j + 1 => ifc (P (9 - j)) ((canP P j).1 + 1, nI (9 - j)) (canP P j)
theorem canP_1 (P : Nat → Prop) : ∀ j, j ≤ 10 → (canP P j).1 + cP P (10 - j) = cP P 10 ∧ (((canP P j).2 = -5 ∧ ∀ v, 10 - j ≤ v → v < 10 → ¬ P v) ∨ ∃ v, 10 - j ≤ v ∧ v < 10 ∧ P v ∧ (∀ u, 10 - j ≤ u → u < v → ¬ P u) ∧ (canP P j).2 = nI v)
  | 0, _ => ⟨Nat.zero_add _, Or.inl ⟨rfl, fun v a b => by omega⟩⟩
  | j + 1, hj => by
    obtain ⟨r1, r2⟩ := canP_1 P j (by omega)
    have e : cP P (10 - j) = cP P (10 - (j + 1)) + ifc (P (9 - j)) 1 0 := by
      rw [show 10 - j = (9 - j) + 1 by omega, cP, show 10 - (j + 1) = 9 - j by omega]
    rw [canP]
    by_cases h : P (9 - j)
    · rw [ifc_t h] at e ⊢
      refine ⟨by show (canP P j).1 + 1 + _ = _; omega, Or.inr ⟨9 - j, by omega, by omega, h, fun u a b => by omega, rfl⟩⟩
    · rw [ifc_f h] at e ⊢
      refine ⟨by omega, ?_⟩
      rcases r2 with ⟨a, b⟩ | ⟨v, a, b, c, d, f⟩
      · refine Or.inl ⟨a, fun v hv hv2 => ?_⟩
        by_cases hq : v = 9 - j
        · rw [hq]; exact h
        · exact b v (by omega) hv2
      · refine Or.inr ⟨v, by omega, b, c, fun u hu hu2 => ?_, f⟩
        by_cases hq : u = 9 - j
        · rw [hq]; exact h
        · exact d u (by omega) hu2
theorem can_P {P : Nat → Prop} : nI (bitc (bsC P 10) 16) = nI (canP P 10).1 ∧ ifc (bsC P 10 = 0) (-5) (nI (lowR (bsC P 10))) = (canP P 10).2 := by
  have hh := bsC_hb P 10 (by decide)
  obtain ⟨r1, r2⟩ := canP_1 P 10 (by decide)
  have r1 : (canP P 10).1 + 0 = cP P 10 := r1
  constructor
  · rw [bitc_cP (m := 10) 16 hh, show min 16 10 = 10 from rfl, ← r1, Nat.add_zero]
  · by_cases h0 : bsC P 10 = 0
    · rw [ifc_t h0]
      rcases r2 with ⟨a, _⟩ | ⟨v, _, b, c, _, _⟩
      · exact a.symm
      · have := (hh v (by omega)).mpr ⟨b, c⟩
        rw [h0] at this
        exact absurd this (hb_0 (by omega))
    · rw [ifc_f h0]
      obtain ⟨l1, l2, l3⟩ := lowR_ok (bsC_16 P 10 (by decide)) h0
      obtain ⟨q1, q2⟩ := (hh _ l1).mp l2
      rcases r2 with ⟨_, b⟩ | ⟨v, _, b, c, d, e⟩
      · exact absurd q2 (b _ (by omega) q1)
      · rw [e]
        have : lowR (bsC P 10) = v := by
          rcases Nat.lt_trichotomy (lowR (bsC P 10)) v with w | w | w
          · exact absurd q2 (d _ (by omega) w)
          · exact w
          · exact absurd ((hh v (by omega)).mpr ⟨b, c⟩) (l3 v w)
        rw [this]
theorem can_eq (h : EQ M I nl na) (hpp : pp ≤ 6) (hs : nbd 9999 (mgC23 I)) {sn p : Nat} (hq : SQ M I pp sn) : ∀ j, canF M pp sn p j = canP (fun v => ∀ k, k < sn → (chT I nl na pp (I 24) (va_up (I 26) p (nI v)) (I 27) (snO (I 3) sn) (tn (I 3 (3 * k + 1)))).1.1 (tn (I 3 (3 * k))) = I 3 (3 * k + 2)) j
  | 0 => rfl
  | j + 1 => by
    have ih := can_eq h hpp hs (p := p) hq j
    have e : seenP (wr M 68 p (nI (9 - j))) pp sn ↔ ∀ k, k < sn → (chT I nl na pp (I 24) (va_up (I 26) p (nI (9 - j))) (I 27) (snO (I 3) sn) (tn (I 3 (3 * k + 1)))).1.1 (tn (I 3 (3 * k))) = I 3 (3 * k + 2) := by
      rw [seen_iff h hpp hs hq (va_up (I 26) p (nI (9 - j))) (I 27), ← h.2.2.1, ← h.2.2.2.1]
      exact Iff.rfl
    rw [canF, canP, ih]
    exact ifc_congr e
theorem arrF_eq {sp gl : Nat → Int32} (hs : ∀ p, p < 6 → ∃ c, c < 16 ∧ sp p = nI c) : ∀ n, n ≤ 6 → arrF sp (gF gl) n = arrF sp gl n
  | 0, _ => rfl
  | n + 1, hn => by
    rw [arrF, arrF, arrF_eq hs n (by omega)]
    have e : sp n = gF gl n ↔ sp n = gl n := by
      by_cases h : gl n < 0
      · rw [gF_n h]
        obtain ⟨c, hc, ec⟩ := hs n (by omega)
        have key : ∀ x : Int32, x < 0 → ¬ nI c = x := fun x hx q => by
          rw [← q] at hx
          have hx := Int32.lt_iff_toInt_lt.mp hx
          rw [nI_toInt (by omega), show ((0 : Int32)).toInt = 0 from rfl] at hx; omega
        rw [ec]
        exact ⟨fun q => absurd q (key _ (by decide)), fun q => absurd q (key _ h)⟩
      · rw [gF_p h]
    rw [ifc_congr e]
end
