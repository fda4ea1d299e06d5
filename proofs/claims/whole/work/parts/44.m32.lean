/-- a token: its kind (0 a test, 1 not, 2 and, 3 or), fact, relation, number -/
abbrev Tk := Nat × Int32 × Int32 × Int32
def Tk_no : Tk := (1, 0, 0, 0)
def Tk_an : Tk := (2, 0, 0, 0)
def Tk_eo : Tk := (3, 0, 0, 0)
noncomputable def mcd (z : Tk) : Int32 := ifc (z.1 = 0) (1000 * z.2.1 + 100 * z.2.2.1 + z.2.2.2) (ifc (z.1 = 1) (-33) (ifc (z.1 = 2) (-38) (-124)))
abbrev PR := Nat × Option (List Tk)
def noL (k : Nat) : List Tk := List.replicate k Tk_no
def anL (b : Bool) : List Tk := match b with | true => [Tk_an] | false => []
def eoL (b : Bool) : List Tk := match b with | true => [Tk_eo] | false => []
section
variable (tx : Nat → Int32) (fd : Nat)
noncomputable def tstT (a : Nat) : Tk := (0, plc (nxt tx fd a), nxt tx fd (a + 1) - 60, ifc (digP (nxt tx fd (a + 1 + 1 + 1))) (d2V tx fd (a + 1 + 1)) (d1V tx fd (a + 1 + 1)))
noncomputable def tsR (a : Nat) : PR := (tstA tx fd a, ifc (tstOK tx fd a) (some [tstT tx fd a]) none)
def notR (z : PR) : PR := (z.1, z.2.map (fun l => l ++ [Tk_no]))
noncomputable def parR (z : PR) : PR := match z.2 with
  | none => (z.1, none)
  | some o => ifc (nxt tx fd z.1 = 41) (z.1 + 1, some o) (z.1, none)
noncomputable def eiL (sg : Nat → PR) : Nat → Bool → Bool → Nat → List Tk → PR
  | 0, _, _, a, _ => (a, none)
  | k + 1, ei, bo, a, out => match (sg a).2 with
    | none => ((sg a).1, none)
    | some o => ifc (nxt tx fd (sg a).1 = 38) (eiL sg k ei true ((sg a).1 + 1) (out ++ o ++ anL bo))
        (ifc (nxt tx fd (sg a).1 = 124) (eiL sg k true false ((sg a).1 + 1) (out ++ o ++ anL bo ++ eoL ei))
          ((sg a).1, some (out ++ o ++ anL bo ++ eoL ei)))
/-- one part of a condition, where r more brackets may be -/
noncomputable def sngR : Nat → Nat → PR
  | 0, a => ifc (nxt tx fd a = 33 ∨ nxt tx fd a = 40) (a, none) (tsR tx fd a)
  | r + 1, a => ifc (nxt tx fd a = 33) (notR (sngR r (a + 1))) (ifc (nxt tx fd a = 40) (parR tx fd (eiL tx fd (sngR r) 100 false false (a + 1) [])) (tsR tx fd a))
noncomputable def dropB : List Int32 → List Int32
  | [] => []
  | c :: T => ifc (c = 33) (dropB T) (c :: T)
noncomputable def cB : List Int32 → Nat
  | [] => 0
  | c :: T => ifc (c = 33) (cB T + 1) 0
noncomputable def stlT (s : Int32) : List Int32 → List Int32
  | [] => []
  | c :: T => ifc (c = 38 ∨ c = 124 ∧ ¬ s = 38) (stlT s T) (c :: T)
noncomputable def stlE (s : Int32) : List Int32 → List Tk
  | [] => []
  | c :: T => ifc (c = 38 ∨ c = 124 ∧ ¬ s = 38) ((ifc (c = 38) Tk_an Tk_eo) :: stlE s T) []
abbrev LSz := Bool × Nat × List Int32 × Int32 × List Tk
noncomputable def runL : Nat → Bool → Nat → List Int32 → Int32 → List Tk → Option LSz
  | 0, _, _, _, _, _ => none
  | k + 1, true, a, T, op, out =>
    ifc (nxt tx fd a = 33 ∨ nxt tx fd a = 40)
      (ifc (op = 4) (some (false, a, T, op, out)) (runL k true (a + 1) (nxt tx fd a :: T) (op + 1) out))
      (ifc (tstOK tx fd a) (runL k false (tstA tx fd a) (dropB T) (op - nI (cB T)) (out ++ [tstT tx fd a] ++ noL (cB T))) (some (false, tstA tx fd a, T, op, out)))
  | k + 1, false, a, T, op, out =>
    ifc (nxt tx fd a = 38 ∨ nxt tx fd a = 124)
      (runL k true (a + 1) (nxt tx fd a :: stlT (nxt tx fd a) T) op (out ++ stlE (nxt tx fd a) T))
      (ifc (stlT 124 T = []) (some (true, a, stlT 124 T, op, out ++ stlE 124 T))
        (ifc (nxt tx fd a = 41) (runL k false (a + 1) (dropB (stlT 124 T).tail) (op - 1 - nI (cB (stlT 124 T).tail)) (out ++ stlE 124 T ++ noL (cB (stlT 124 T).tail)))
          (some (false, a, stlT 124 T, op, out ++ stlE 124 T))))
noncomputable def finL (k a : Nat) (S : List Int32) (op : Int32) (out : List Tk) : Option LSz :=
  ifc (S = []) (some (true, a, S, op, out))
    (ifc (nxt tx fd a = 41) (runL tx fd k false (a + 1) (dropB S.tail) (op - 1 - nI (cB S.tail)) (out ++ noL (cB S.tail))) (some (false, a, S, op, out)))
end
def pnd : Bool → Bool → List Int32 → List Int32
  | false, false, S => S
  | true, false, S => 124 :: S
  | false, true, S => 38 :: S
  | true, true, S => 38 :: 124 :: S
section
variable {tx : Nat → Int32} {fd : Nat}
theorem tsR_ge (a : Nat) : a ≤ (tsR tx fd a).1 := by
  show a ≤ tstA tx fd a
  unfold tstA
  by_cases h1 : plc (nxt tx fd a) < 0
  · rw [ifc_t h1]; exact Nat.le_refl _
  · rw [ifc_f h1]
    by_cases h2 : relP (nxt tx fd (a + 1))
    · rw [ifc_t h2]; unfold tnA
      by_cases h3 : digP (nxt tx fd (a + 1 + 1))
      · rw [ifc_t h3]
        by_cases h4 : digP (nxt tx fd (a + 1 + 1 + 1))
        · rw [ifc_t h4]; omega
        · rw [ifc_f h4]; omega
      · rw [ifc_f h3]; omega
    · rw [ifc_f h2]; omega
theorem eiL_ge {sg : Nat → PR} (h : ∀ a, a ≤ (sg a).1) : ∀ k ei bo a out, a ≤ (eiL tx fd sg k ei bo a out).1
  | 0, _, _, _, _ => Nat.le_refl _
  | k + 1, ei, bo, a, out => by
    have h1 := h a
    rw [eiL]
    cases hs : (sg a).2 with
    | none => exact h1
    | some o =>
      show a ≤ (ifc (nxt tx fd (sg a).1 = 38) _ (ifc (nxt tx fd (sg a).1 = 124) _ _) : PR).1
      by_cases q1 : nxt tx fd (sg a).1 = 38
      · rw [ifc_t q1]; have h2 := eiL_ge h k ei true ((sg a).1 + 1) (out ++ o ++ anL bo); omega
      · rw [ifc_f q1]
        by_cases q2 : nxt tx fd (sg a).1 = 124
        · rw [ifc_t q2]; have h2 := eiL_ge h k true false ((sg a).1 + 1) (out ++ o ++ anL bo ++ eoL ei); omega
        · rw [ifc_f q2]; exact h1
theorem sng_ge : ∀ r a, a ≤ (sngR tx fd r a).1
  | 0, a => by
    rw [sngR]
    by_cases h : nxt tx fd a = 33 ∨ nxt tx fd a = 40
    · rw [ifc_t h]; exact Nat.le_refl _
    · rw [ifc_f h]; exact tsR_ge a
  | r + 1, a => by
    rw [sngR]
    by_cases h : nxt tx fd a = 33
    · rw [ifc_t h]; have h2 := sng_ge r (a + 1); show a ≤ (sngR tx fd r (a + 1)).1; omega
    · rw [ifc_f h]
      by_cases h3 : nxt tx fd a = 40
      · rw [ifc_t h3]
        have h2 := eiL_ge (tx := tx) (fd := fd) (sng_ge r) 100 false false (a + 1) []
        unfold parR
        cases hz : (eiL tx fd (sngR tx fd r) 100 false false (a + 1) []).2 with
        | none => show a ≤ (eiL tx fd (sngR tx fd r) 100 false false (a + 1) []).1; omega
        | some o =>
          show a ≤ (ifc _ _ _ : PR).1
          by_cases q : nxt tx fd (eiL tx fd (sngR tx fd r) 100 false false (a + 1) []).1 = 41
          · rw [ifc_t q]; show a ≤ (eiL tx fd (sngR tx fd r) 100 false false (a + 1) []).1 + 1; omega
          · rw [ifc_f q]; show a ≤ (eiL tx fd (sngR tx fd r) 100 false false (a + 1) []).1; omega
      · rw [ifc_f h3]; exact tsR_ge a
theorem nxt_end {a : Nat} (h : fd ≤ a) : nxt tx fd a = -1 := by unfold nxt; rw [ifc_f (Nat.not_lt.mpr h)]
theorem plc_m1 : plc (-1) = -1 := by unfold plc; rw [ifc_f (by decide), ifc_f (by decide), ifc_f (by decide), ifc_f (by decide), ifc_f (by decide), ifc_f (by decide)]
theorem tst_end {a : Nat} (h : fd ≤ a) : tstA tx fd a = a ∧ ¬ tstOK tx fd a := by
  have h1 : plc (nxt tx fd a) < 0 := by rw [nxt_end h, plc_m1]; decide
  exact ⟨by unfold tstA; rw [ifc_t h1], fun q => q.1.1 h1⟩
theorem pnd_d {S : List Int32} (hS : S = [] ∨ ∃ S', S = 40 :: S') : ∀ ei bo, dropB (pnd ei bo S) = pnd ei bo S ∧ cB (pnd ei bo S) = 0 := by
  intro ei bo
  cases ei <;> cases bo <;> rcases hS with e | ⟨S', e⟩ <;> subst e <;> refine ⟨?_, ?_⟩ <;> first | rfl | exact ifc_f (by decide)
theorem i32_s0 (x : Int32) : x - nI 0 = x := Int32.sub_zero x
theorem i32_1 (x : Int32) (k : Nat) : x - 1 - nI k = x - nI (k + 1) := by
  rw [← nI_1, Int32.sub_eq_add_neg, Int32.sub_eq_add_neg, Int32.sub_eq_add_neg, Int32.neg_add, Int32.add_assoc, Int32.add_comm (-1)]
  rw [Int32.sub_eq_add_neg]
theorem i32_2 (x : Int32) (k : Nat) : x + 1 - nI (k + 1) = x - nI k := by
  rw [← i32_1, Int32.add_sub_cancel]
def failsAt (a' : Nat) (z : Option LSz) : Prop := ∃ T op out, z = some (false, a', T, op, out)
def sngOK (tx : Nat → Int32) (fd r : Nat) : Prop := ∀ a T op pre, op + r = 4 →
  (∀ a' o, sngR tx fd r a = (a', some o) → ∀ st, (∃ k, runL tx fd k false a' (dropB T) (nI op - nI (cB T)) (pre ++ o ++ noL (cB T)) = some st) → ∃ k, runL tx fd k true a T (nI op) pre = some st) ∧
  (∀ a', sngR tx fd r a = (a', none) → ∃ k, failsAt a' (runL tx fd k true a T (nI op) pre))
theorem pr_eta (z : PR) (o : Option (List Tk)) (h : z.2 = o) : z = (z.1, o) := by rw [← h]
theorem ne_of (x : Int32) {c d : Int32} (h : x = c) (hcd : ¬ c = d) : ¬ x = d := fun q => hcd (h.symm.trans q)
theorem not_wt {x : Int32} (h1 : x ≠ 38) (h2 : x ≠ 124) : ¬ (x = 38 ∨ x = 124) := fun q => q.elim h1 h2
/-- what a pending stack is settled to -/
theorem pnd_and {S : List Int32} (hS : S = [] ∨ ∃ S', S = 40 :: S') : ∀ ei bo, stlT 38 (pnd ei bo S) = pnd ei false S ∧ stlE 38 (pnd ei bo S) = anL bo := by
  intro ei bo
  have h1 : stlT 38 S = S ∧ stlE 38 S = [] := by
    rcases hS with e | ⟨S', e⟩
    · subst e; exact ⟨rfl, rfl⟩
    · subst e; exact ⟨ifc_f (by decide), ifc_f (by decide)⟩
  have h2 : stlT 38 (124 :: S) = 124 :: S ∧ stlE 38 (124 :: S) = [] := ⟨ifc_f (by decide), ifc_f (by decide)⟩
  cases ei <;> cases bo
  · exact h1
  · exact ⟨(ifc_t (Or.inl rfl)).trans h1.1, by rw [show stlE 38 (pnd false true S) = ifc ((38 : Int32) = 38) Tk_an Tk_eo :: stlE 38 S from ifc_t (Or.inl rfl), ifc_t rfl, h1.2]; rfl⟩
  · exact h2
  · exact ⟨(ifc_t (Or.inl rfl)).trans h2.1, by rw [show stlE 38 (pnd true true S) = ifc ((38 : Int32) = 38) Tk_an Tk_eo :: stlE 38 (124 :: S) from ifc_t (Or.inl rfl), ifc_t rfl, h2.2]; rfl⟩
theorem pnd_or {S : List Int32} (hS : S = [] ∨ ∃ S', S = 40 :: S') : ∀ ei bo, stlT 124 (pnd ei bo S) = S ∧ stlE 124 (pnd ei bo S) = anL bo ++ eoL ei := by
  intro ei bo
  have hn : ¬ ((124 : Int32) = 38) := by decide
  have h1 : stlT 124 S = S ∧ stlE 124 S = [] := by
    rcases hS with e | ⟨S', e⟩
    · subst e; exact ⟨rfl, rfl⟩
    · subst e; exact ⟨ifc_f (by decide), ifc_f (by decide)⟩
  have h2 : stlT 124 (124 :: S) = S ∧ stlE 124 (124 :: S) = [Tk_eo] := ⟨(ifc_t (Or.inr ⟨rfl, hn⟩)).trans h1.1, by rw [show stlE 124 (124 :: S) = ifc ((124 : Int32) = 38) Tk_an Tk_eo :: stlE 124 S from ifc_t (Or.inr ⟨rfl, hn⟩), ifc_f hn, h1.2]⟩
  cases ei <;> cases bo
  · exact h1
  · exact ⟨(ifc_t (Or.inl rfl)).trans h1.1, by rw [show stlE 124 (pnd false true S) = ifc ((38 : Int32) = 38) Tk_an Tk_eo :: stlE 124 S from ifc_t (Or.inl rfl), ifc_t rfl, h1.2]; rfl⟩
  · exact h2
  · exact ⟨(ifc_t (Or.inl rfl)).trans h2.1, by rw [show stlE 124 (pnd true true S) = ifc ((38 : Int32) = 38) Tk_an Tk_eo :: stlE 124 (124 :: S) from ifc_t (Or.inl rfl), ifc_t rfl, h2.2]; rfl⟩
theorem ei_run {r : Nat} (ih : sngOK tx fd r) : ∀ n ei bo a S op pre out, fd < a + n → op + r = 4 → (S = [] ∨ ∃ S', S = 40 :: S') →
    (∀ a' o, eiL tx fd (sngR tx fd r) n ei bo a out = (a', some o) → ∀ st, (∃ k, finL tx fd k a' S (nI op) (pre ++ o) = some st) → ∃ k, runL tx fd k true a (pnd ei bo S) (nI op) (pre ++ out) = some st) ∧
    (∀ a', eiL tx fd (sngR tx fd r) n ei bo a out = (a', none) → ∃ k, failsAt a' (runL tx fd k true a (pnd ei bo S) (nI op) (pre ++ out)))
  | 0, ei, bo, a, S, op, pre, out, hf, _, _ => by
    have he := tst_end (tx := tx) (fd := fd) (a := a) (by omega)
    have hx : ¬ (nxt tx fd a = 33 ∨ nxt tx fd a = 40) := by rw [nxt_end (by omega)]; decide
    refine ⟨fun a' o h => absurd (congrArg Prod.snd h) (fun q => by cases q), fun a' h => ?_⟩
    have ha : a = a' := congrArg Prod.fst h
    subst ha
    exact ⟨1, pnd ei bo S, nI op, pre ++ out, by rw [runL, ifc_f hx, ifc_f he.2, he.1]⟩
  | n + 1, ei, bo, a, S, op, pre, out, hf, hop, hS => by
    obtain ⟨hs, hfl⟩ := ih a (pnd ei bo S) op (pre ++ out) hop
    have hd := pnd_d hS ei bo
    have hge := sng_ge (tx := tx) (fd := fd) r a
    rw [hd.1, hd.2] at hs
    generalize hz : sngR tx fd r a = z at hs hfl hge
    obtain ⟨p, zo⟩ := z
    have hge : a ≤ p := hge
    cases zo with
    | none =>
      have e : eiL tx fd (sngR tx fd r) (n + 1) ei bo a out = (p, none) := by rw [eiL, hz]
      refine ⟨fun a' o h => ?_, fun a' h => ?_⟩
      · rw [e] at h; exact absurd (congrArg Prod.snd h) (fun q => by cases q)
      · rw [e] at h; exact hfl a' h
    | some o =>
      have e : eiL tx fd (sngR tx fd r) (n + 1) ei bo a out = ifc (nxt tx fd p = 38) (eiL tx fd (sngR tx fd r) n ei true (p + 1) (out ++ o ++ anL bo)) (ifc (nxt tx fd p = 124) (eiL tx fd (sngR tx fd r) n true false (p + 1) (out ++ o ++ anL bo ++ eoL ei)) (p, some (out ++ o ++ anL bo ++ eoL ei))) := by rw [eiL, hz]
      have hs := hs p o rfl
      rw [show pre ++ out ++ o ++ noL 0 = pre ++ (out ++ o) by rw [show noL 0 = [] from rfl, List.append_nil, List.append_assoc], i32_s0] at hs
      rw [e]
      by_cases q1 : nxt tx fd p = 38
      · rw [ifc_t q1]
        obtain ⟨ha, hb⟩ := ei_run ih n ei true (p + 1) S op pre (out ++ o ++ anL bo) (by omega) hop hS
        have hpa := pnd_and hS ei bo
        have stp : ∀ k, runL tx fd (k + 1) false p (pnd ei bo S) (nI op) (pre ++ (out ++ o)) = runL tx fd k true (p + 1) (pnd ei true S) (nI op) (pre ++ (out ++ o ++ anL bo)) := by
          intro k
          rw [runL, ifc_t (Or.inl q1), q1, hpa.1, hpa.2, List.append_assoc pre]
          cases ei <;> rfl
        refine ⟨fun a' o' h st hk => ?_, fun a' h => ?_⟩
        · obtain ⟨k, hk⟩ := ha a' o' h st hk
          exact hs st ⟨k + 1, (stp k).trans hk⟩
        · obtain ⟨k, T', op', out', hk⟩ := hb a' h
          obtain ⟨k2, hk2⟩ := hs _ ⟨k + 1, (stp k).trans hk⟩
          exact ⟨k2, T', op', out', hk2⟩
      · rw [ifc_f q1]
        have hpo := pnd_or hS ei bo
        by_cases q2 : nxt tx fd p = 124
        · rw [ifc_t q2]
          obtain ⟨ha, hb⟩ := ei_run ih n true false (p + 1) S op pre (out ++ o ++ anL bo ++ eoL ei) (by omega) hop hS
          have stp : ∀ k, runL tx fd (k + 1) false p (pnd ei bo S) (nI op) (pre ++ (out ++ o)) = runL tx fd k true (p + 1) (pnd true false S) (nI op) (pre ++ (out ++ o ++ anL bo ++ eoL ei)) := by
            intro k
            rw [runL, ifc_t (Or.inr q2), q2, hpo.1, hpo.2]
            simp only [List.append_assoc]; rfl
          refine ⟨fun a' o' h st hk => ?_, fun a' h => ?_⟩
          · obtain ⟨k, hk⟩ := ha a' o' h st hk
            exact hs st ⟨k + 1, (stp k).trans hk⟩
          · obtain ⟨k, T', op', out', hk⟩ := hb a' h
            obtain ⟨k2, hk2⟩ := hs _ ⟨k + 1, (stp k).trans hk⟩
            exact ⟨k2, T', op', out', hk2⟩
        · rw [ifc_f q2]
          have stp : ∀ k, runL tx fd (k + 1) false p (pnd ei bo S) (nI op) (pre ++ (out ++ o)) = finL tx fd k p S (nI op) (pre ++ (out ++ o ++ anL bo ++ eoL ei)) := by
            intro k
            rw [runL, ifc_f (not_wt q1 q2), hpo.1, hpo.2]
            unfold finL
            simp only [List.append_assoc]
          refine ⟨fun a' o' h st hk => ?_, fun a' h => absurd (congrArg Prod.snd h) (fun q => by cases q)⟩
          have h1 : p = a' := congrArg Prod.fst h
          have h2 : out ++ o ++ anL bo ++ eoL ei = o' := Option.some.inj (congrArg Prod.snd h)
          subst h1; subst h2
          obtain ⟨k, hk⟩ := hk
          exact hs st ⟨k + 1, (stp k).trans hk⟩
theorem ts_run {a : Nat} {T : List Int32} {op : Nat} {pre : List Tk} (hx : ¬ (nxt tx fd a = 33 ∨ nxt tx fd a = 40)) :
    (∀ a' o, tsR tx fd a = (a', some o) → ∀ st, (∃ k, runL tx fd k false a' (dropB T) (nI op - nI (cB T)) (pre ++ o ++ noL (cB T)) = some st) → ∃ k, runL tx fd k true a T (nI op) pre = some st) ∧
    (∀ a', tsR tx fd a = (a', none) → ∃ k, failsAt a' (runL tx fd k true a T (nI op) pre)) := by
  by_cases h : tstOK tx fd a
  · have e : tsR tx fd a = (tstA tx fd a, some [tstT tx fd a]) := by unfold tsR; rw [ifc_t h]
    rw [e]
    refine ⟨fun a' o q st hk => ?_, fun a' q => absurd (congrArg Prod.snd q) (fun q => by cases q)⟩
    have h1 : tstA tx fd a = a' := congrArg Prod.fst q
    have h2 : [tstT tx fd a] = o := Option.some.inj (congrArg Prod.snd q)
    subst h1; subst h2
    obtain ⟨k, hk⟩ := hk
    exact ⟨k + 1, by rw [runL, ifc_f hx, ifc_t h]; exact hk⟩
  · have e : tsR tx fd a = (tstA tx fd a, none) := by unfold tsR; rw [ifc_f h]
    rw [e]
    refine ⟨fun a' o q => absurd (congrArg Prod.snd q) (fun q => by cases q), fun a' q => ?_⟩
    have h1 : tstA tx fd a = a' := congrArg Prod.fst q
    subst h1
    exact ⟨1, T, nI op, pre, by rw [runL, ifc_f hx, ifc_f h]⟩
end
