/-! a nation: what both sides hold of it, and that both read it alike -/
theorem atL_sh {h : Nat → Int32} (s : Nat) : ∀ (l : List Int32) (k : Nat), atL h (s + k) l → atL (fun i => h (s + i)) k l
  | [], _, _ => trivial
  | x :: l, k, q => ⟨q.1, atL_sh s l (k + 1) q.2⟩
theorem csum_sh (wd nu fr to sg : Nat → Int32) (fx : Int32 → Int32) (g : Int32) (k0 : Nat) : ∀ j, csum wd nu fr to sg fx g k0 (j + 1) = csum wd nu fr to sg fx (g + clv wd nu fr to sg fx k0) (k0 + 1) j
  | 0 => rfl
  | j + 1 => by
    rw [csum, csum_sh wd nu fr to sg fx g k0 j, csum, show k0 + (j + 1) = k0 + 1 + j by omega]
theorem m_clause {fx : Int32 → Int32} {wd nu fr to sg : Nat → Int32} {k s : Nat} {x : Int32 × Int32 × List Tk} (hg : clG x) (h1 : wd k = x.1) (h2 : nu k = x.2.1) (h3 : x.1 = 2 ∨ (fr k = nI s ∧ to k = nI (s + x.2.2.length))) (hs : s + x.2.2.length ≤ 600) (hl : x.2.2.length ≤ 100) (ha : atL sg s (x.2.2.map mcd)) :
    clv wd nu fr to sg fx k = cv fx x ∧ clOK wd fr to sg k := by
  obtain ⟨_, hc⟩ := hg
  unfold clv cv clOK
  rw [h1, h2]
  rcases hc with ⟨e2, _⟩ | ⟨hw, hwf, _⟩
  · rw [e2, ifc_t (by decide), ifc_t rfl]
    exact ⟨rfl, fun q => absurd (by decide) q⟩
  · have n1 : ¬ 1 < x.1 := by rcases hw with e | e <;> rw [e] <;> decide
    have n2 : ¬ x.1 = 2 := by rcases hw with e | e <;> rw [e] <;> decide
    obtain ⟨f1, f2⟩ := h3.resolve_left n2
    rw [ifc_f n1, ifc_f n2, f1, f2, tn_nI (by omega), tn_nI (by omega), show s + x.2.2.length - s = x.2.2.length by omega]
    obtain ⟨a1, a2⟩ := m_hv (fx := fx) hwf (atL_sh (h := sg) s (x.2.2.map mcd) 0 ha)
    rw [a2]
    refine ⟨?_, fun _ => ⟨s, s + x.2.2.length, rfl, rfl, by omega, hs, by omega, by rw [show s + x.2.2.length - s = x.2.2.length by omega]; exact a1⟩⟩
    cases tru fx x.2.2
    · rw [ifc_t (P := bb false = 0) rfl, ifc_f (P := false = true) (by decide)]
    · rw [ifc_f (P := bb true = 0) (by decide), ifc_t (P := true = true) rfl]
theorem m_all {B : Ty} {sg : Nat → Int32} {fx : Int32 → Int32} : ∀ (l : ClL) (c s : Nat) (g : Int32), (∀ x, x ∈ l → clG x) → enc B c s l → s + (toks l).length ≤ 600 → (toks l).length ≤ 100 → atL sg s ((toks l).map mcd) →
    csum (B 76) (B 77) (B 78) (B 79) sg fx g c l.length = g + tot fx l ∧ ∀ j, j < l.length → clOK (B 76) (B 78) (B 79) sg (c + j)
  | [], _, _, g, _, _, _, _, _ => ⟨(Int32.add_zero g).symm, fun j h => absurd h (Nat.not_lt_zero j)⟩
  | x :: l, c, s, g, hg, he, h6, h1, ha => by
    obtain ⟨e1, e2, e3, e4⟩ := he
    have ha : atL sg s ((x.2.2 ++ toks l).map mcd) := ha
    have h6 : s + (x.2.2 ++ toks l).length ≤ 600 := h6
    have h1 : (x.2.2 ++ toks l).length ≤ 100 := h1
    rw [List.length_append] at h6 h1
    rw [List.map_append] at ha
    obtain ⟨a1, a2⟩ := (atL_app _ _ _).mp ha
    rw [List.length_map] at a2
    obtain ⟨r1, r2⟩ := m_clause (fx := fx) (wd := B 76) (nu := B 77) (fr := B 78) (to := B 79) (hg x List.mem_cons_self) e1 e2 e3 (by omega) (by omega) a1
    obtain ⟨q1, q2⟩ := m_all l (c + 1) (s + x.2.2.length) (g + cv fx x) (fun y hy => hg y (List.mem_cons_of_mem _ hy)) e4 (by omega) (by omega) a2
    refine ⟨?_, fun j hj => ?_⟩
    · rw [List.length_cons, csum_sh, r1, q1, Int32.add_assoc]; rfl
    · match j, hj with
      | 0, _ => exact r2
      | j + 1, hj =>
        rw [show c + (j + 1) = c + 1 + j by omega]
        exact q2 j (by rw [List.length_cons] at hj; omega)
noncomputable def fdx (wd nu : Nat → Int32) (f0 : Int32) (k0 : Nat) : Nat → Int32
  | 0 => f0
  | j + 1 => ifc (wd (k0 + j) = 2) (nu (k0 + j)) (fdx wd nu f0 k0 j)
theorem fdx_sh (wd nu : Nat → Int32) (f0 : Int32) (k0 : Nat) : ∀ j, fdx wd nu f0 k0 (j + 1) = fdx wd nu (ifc (wd k0 = 2) (nu k0) f0) (k0 + 1) j
  | 0 => rfl
  | j + 1 => by rw [fdx, fdx_sh wd nu f0 k0 j, fdx, show k0 + (j + 1) = k0 + 1 + j by omega]
theorem fdx_0 (wd nu : Nat → Int32) (k0 : Nat) : ∀ j, fdv wd nu k0 j = fdx wd nu 0 k0 j
  | 0 => rfl
  | j + 1 => by rw [fdv, fdx, fdx_0 wd nu k0 j]
theorem m_fade {B : Ty} : ∀ (l : ClL) (c s : Nat) (f0 : Int32), enc B c s l → fdx (B 76) (B 77) f0 c l.length = fdC f0 l
  | [], _, _, _, _ => rfl
  | x :: l, c, s, f0, he => by
    obtain ⟨e1, e2, e3, e4⟩ := he
    rw [List.length_cons, fdx_sh, e1, e2, m_fade l (c + 1) _ _ e4, fdC]
/-- what both sides hold of nation i -/
def NaR (I : Ty) (nl : Nat → Nat) (i : Nat) : Prop := ∃ l : ClL, (∀ c, c ∈ l → clG c) ∧ l.length ≤ 10 ∧ I 75 i = nI l.length ∧ enc I (10 * i) (100 * i) l ∧ (toks l).length ≤ 100 ∧ atL (I 80) (100 * i) ((toks l).map mcd) ∧ nl i = (stps l).length ∧ (stps l).length ≤ 100 ∧ atL (I (NB + 2 * i)) 0 (stps l) ∧ I (NB + 2 * i + 1) 0 = fdC 0 l
theorem scell_s (i : Nat) : scell (i + 1) = NB + 2 * i := by unfold scell; rw [if_neg (by omega), Nat.add_sub_cancel]
theorem ncell_s (i : Nat) : ncell (i + 1) = NB + 2 * i + 1 := by unfold ncell; rw [if_neg (by omega), Nat.add_sub_cancel]; rfl
theorem sln_s (nl : Nat → Nat) (i : Nat) : sln nl (i + 1) = nl i := by unfold sln; rw [if_neg (by omega), Nat.add_sub_cancel]
theorem NaR_ok {I : Ty} {nl : Nat → Nat} {i : Nat} (hi : i < 6) (h : NaR I nl i) : sln nl (i + 1) ≤ 100 ∧ okSt (I (scell (i + 1))) (sln nl (i + 1)) ∧ naOK I i ∧
    (nsW I nl (i + 1) = fun fx g => csum (I 76) (I 77) (I 78) (I 79) (I 80) fx g (10 * i) (tn (I 75 i))) ∧ I (ncell (i + 1)) 0 = fdv (I 76) (I 77) (10 * i) (tn (I 75 i)) := by
  obtain ⟨l, h1, h2, h3, h4, h5, h6, h7, h8, h9, h10⟩ := h
  have key := fun (fx : Int32 → Int32) (g : Int32) => m_all (fx := fx) (B := I) (sg := I 80) l (10 * i) (100 * i) g h1 h4 (by omega) h5 h6
  rw [sln_s, scell_s, ncell_s, h7]
  refine ⟨h8, okSt_of h1 h9, ⟨l.length, h2, h3, (key (fun x => x) 0).2⟩, ?_, ?_⟩
  · unfold nsW
    rw [sln_s, scell_s, h7, ns_tot h1 h9]
    funext fx g
    rw [h3, tn_nI (by omega), (key fx g).1]
  · rw [h10, h3, tn_nI (by omega), fdx_0, m_fade l (10 * i) (100 * i) 0 h4]
/-- which nation holds, as the reference tells it -/
def theV (na : Nat) : Int32 := if na = 0 then -1 else nI (na - 1)
/-- the holding nation says the same on both sides -/
theorem hold_ok {I : Ty} {nl : Nat → Nat} {na c : Nat} (hc : c ≤ 6) (hna : na ≤ c) (h21 : I 21 0 = 0) (ht : I 65 11 = theV na) (hN : ∀ i, i < c → NaR I nl i) : sln nl na ≤ 100 ∧ okSt (I (scell na)) (sln nl na) ∧ mOK I ∧ nsW I nl na = msum I ∧ I (ncell na) 0 = mfade I := by
  cases na with
  | zero =>
    have ht : I 65 11 = -1 := ht
    refine ⟨Nat.zero_le _, fun i hi => absurd hi (Nat.not_lt_zero i), Or.inl ht, ?_, ?_⟩
    · funext fx g
      unfold msum
      rw [ifc_t ht]
      show g + 0 = g
      exact Int32.add_zero g
    · unfold mfade
      rw [ifc_t ht]
      exact h21
  | succ i =>
    have ht : I 65 11 = nI i := ht
    obtain ⟨a1, a2, a3, a4, a5⟩ := NaR_ok (by omega) (hN i (by omega))
    refine ⟨a1, a2, Or.inr ⟨i, by omega, ht, a3⟩, ?_, ?_⟩
    · rw [a4]
      funext fx g
      unfold msum
      rw [ht, ifc_f (nI_ne1 (by omega)), tn_nI (by omega)]
    · rw [a5]
      unfold mfade
      rw [ht, ifc_f (nI_ne1 (by omega)), tn_nI (by omega)]
