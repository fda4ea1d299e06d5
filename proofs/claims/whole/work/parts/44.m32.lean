/-- a token: its kind (0 a test, 1 not, 2 and, 3 or), fact, relation, number -/
abbrev Tk := Nat × Int32 × Int32 × Int32
def Tk_no : Tk := (1, 0, 0, 0)
def Tk_an : Tk := (2, 0, 0, 0)
def Tk_eo : Tk := (3, 0, 0, 0)
noncomputable def mcd (z : Tk) : Int32 := ifc (z.1 = 0) (1000 * z.2.1 + 100 * z.2.2.1 + z.2.2.2) (ifc (z.1 = 1) (-33) (ifc (z.1 = 2) (-38) (-124)))
abbrev PR := Nat × Option (List Tk)
def noL (k : Nat) : List Tk := List.replicate k Tk_no
def anL (b : Bool) : List Tk := match b with | true => [Tk_an] | false => []
def eoL (b : Bool) : List Tk := match b with | true => [Tk_eo] | false => []
section
variable (tx : Nat → Int32) (fd : Nat)
noncomputable def tstT (a : Nat) : Tk := (0, plc (nxt tx fd a), nxt tx fd (a + 1) - 60, ifc (digP (nxt tx fd (a + 1 + 1 + 1))) (d2V tx fd (a + 1 + 1)) (d1V tx fd (a + 1 + 1)))
noncomputable def tsR (a : Nat) : PR := (tstA tx fd a, ifc (tstOK tx fd a) (some [tstT tx fd a]) none)
def notR (z : PR) : PR := (z.1, z.2.map (fun l => l ++ [Tk_no]))
noncomputable def parR (z : PR) : PR := match z.2 with
  | none => (z.1, none)
  | some o => ifc (nxt tx fd z.1 = 41) (z.1 + 1, some o) (z.1, none)
noncomputable def eiL (sg : Nat → PR) : Nat → Bool → Bool → Nat → List Tk → PR
  | 0, _, _, a, _ => (a, none)
  | k + 1, ei, bo, a, out => match (sg a).2 with
    | none => ((sg a).1, none)
    | some o => ifc (nxt tx fd (sg a).1 = 38) (eiL sg k ei true ((sg a).1 + 1) (out ++ o ++ anL bo))
        (ifc (nxt tx fd (sg a).1 = 124) (eiL sg k true false ((sg a).1 + 1) (out ++ o ++ anL bo ++ eoL ei))
          ((sg a).1, some (out ++ o ++ anL bo ++ eoL ei)))
/-- one part of a condition, where r more brackets may be -/
noncomputable def sngR : Nat → Nat → PR
  | 0, a => ifc (nxt tx fd a = 33 ∨ nxt tx fd a = 40) (a, none) (tsR tx fd a)
  | r + 1, a => ifc (nxt tx fd a = 33) (notR (sngR r (a + 1))) (ifc (nxt tx fd a = 40) (parR tx fd (eiL tx fd (sngR r) 100 false false (a + 1) [])) (tsR tx fd a))
noncomputable def dropB : List Int32 → List Int32
  | [] => []
  | c :: T => ifc (c = 33) (dropB T) (c :: T)
noncomputable def cB : List Int32 → Nat
  | [] => 0
  | c :: T => ifc (c = 33) (cB T + 1) 0
noncomputable def stlT (s : Int32) : List Int32 → List Int32
  | [] => []
  | c :: T => ifc (c = 38 ∨ c = 124 ∧ ¬ s = 38) (stlT s T) (c :: T)
noncomputable def stlE (s : Int32) : List Int32 → List Tk
  | [] => []
  | c :: T => ifc (c = 38 ∨ c = 124 ∧ ¬ s = 38) ((ifc (c = 38) Tk_an Tk_eo) :: stlE s T) []
abbrev LS := Bool × Nat × List Int32 × Nat × List Tk
noncomputable def runL : Nat → Bool → Nat → List Int32 → Nat → List Tk → Option LS
  | 0, _, _, _, _, _ => none
  | k + 1, true, a, T, op, out =>
    ifc (nxt tx fd a = 33 ∨ nxt tx fd a = 40)
      (ifc (op = 4) (some (false, a, T, op, out)) (runL k true (a + 1) (nxt tx fd a :: T) (op + 1) out))
      (ifc (tstOK tx fd a) (runL k false (tstA tx fd a) (dropB T) (op - cB T) (out ++ [tstT tx fd a] ++ noL (cB T))) (some (false, tstA tx fd a, T, op, out)))
  | k + 1, false, a, T, op, out =>
    ifc (nxt tx fd a = 38 ∨ nxt tx fd a = 124)
      (runL k true (a + 1) (nxt tx fd a :: stlT (nxt tx fd a) T) op (out ++ stlE (nxt tx fd a) T))
      (ifc (stlT 124 T = []) (some (true, a, stlT 124 T, op, out ++ stlE 124 T))
        (ifc (nxt tx fd a = 41) (runL k false (a + 1) (dropB (stlT 124 T).tail) (op - 1 - cB (stlT 124 T).tail) (out ++ stlE 124 T ++ noL (cB (stlT 124 T).tail)))
          (some (false, a, stlT 124 T, op, out ++ stlE 124 T))))
noncomputable def finL (k a : Nat) (S : List Int32) (op : Nat) (out : List Tk) : Option LS :=
  ifc (S = []) (some (true, a, S, op, out))
    (ifc (nxt tx fd a = 41) (runL tx fd k false (a + 1) (dropB S.tail) (op - 1 - cB S.tail) (out ++ noL (cB S.tail))) (some (false, a, S, op, out)))
end
def pnd : Bool → Bool → List Int32 → List Int32
  | false, false, S => S
  | true, false, S => 124 :: S
  | false, true, S => 38 :: S
  | true, true, S => 38 :: 124 :: S
section
variable {tx : Nat → Int32} {fd : Nat}
theorem tsR_ge (a : Nat) : a ≤ (tsR tx fd a).1 := by
  show a ≤ tstA tx fd a
  unfold tstA
  by_cases h1 : plc (nxt tx fd a) < 0
  · rw [ifc_t h1]; exact Nat.le_refl _
  · rw [ifc_f h1]
    by_cases h2 : relP (nxt tx fd (a + 1))
    · rw [ifc_t h2]; unfold tnA
      by_cases h3 : digP (nxt tx fd (a + 1 + 1))
      · rw [ifc_t h3]
        by_cases h4 : digP (nxt tx fd (a + 1 + 1 + 1))
        · rw [ifc_t h4]; omega
        · rw [ifc_f h4]; omega
      · rw [ifc_f h3]; omega
    · rw [ifc_f h2]; omega
theorem eiL_ge {sg : Nat → PR} (h : ∀ a, a ≤ (sg a).1) : ∀ k ei bo a out, a ≤ (eiL tx fd sg k ei bo a out).1
  | 0, _, _, _, _ => Nat.le_refl _
  | k + 1, ei, bo, a, out => by
    have h1 := h a
    rw [eiL]
    cases hs : (sg a).2 with
    | none => exact h1
    | some o =>
      show a ≤ (ifc (nxt tx fd (sg a).1 = 38) _ (ifc (nxt tx fd (sg a).1 = 124) _ _)).1
      by_cases q1 : nxt tx fd (sg a).1 = 38
      · rw [ifc_t q1]; have h2 := eiL_ge h k ei true ((sg a).1 + 1) (out ++ o ++ anL bo); omega
      · rw [ifc_f q1]
        by_cases q2 : nxt tx fd (sg a).1 = 124
        · rw [ifc_t q2]; have h2 := eiL_ge h k true false ((sg a).1 + 1) (out ++ o ++ anL bo ++ eoL ei); omega
        · rw [ifc_f q2]; exact h1
theorem sng_ge : ∀ r a, a ≤ (sngR tx fd r a).1
  | 0, a => by
    rw [sngR]
    by_cases h : nxt tx fd a = 33 ∨ nxt tx fd a = 40
    · rw [ifc_t h]; exact Nat.le_refl _
    · rw [ifc_f h]; exact tsR_ge a
  | r + 1, a => by
    rw [sngR]
    by_cases h : nxt tx fd a = 33
    · rw [ifc_t h]; have h2 := sng_ge r (a + 1); show a ≤ (sngR tx fd r (a + 1)).1; omega
    · rw [ifc_f h]
      by_cases h3 : nxt tx fd a = 40
      · rw [ifc_t h3]
        have h2 := eiL_ge (tx := tx) (fd := fd) (sng_ge r) 100 false false (a + 1) []
        unfold parR
        cases hz : (eiL tx fd (sngR tx fd r) 100 false false (a + 1) []).2 with
        | none => show a ≤ (eiL tx fd (sngR tx fd r) 100 false false (a + 1) []).1; omega
        | some o =>
          show a ≤ (ifc _ _ _ : PR).1
          by_cases q : nxt tx fd (eiL tx fd (sngR tx fd r) 100 false false (a + 1) []).1 = 41
          · rw [ifc_t q]; show a ≤ (eiL tx fd (sngR tx fd r) 100 false false (a + 1) []).1 + 1; omega
          · rw [ifc_f q]; show a ≤ (eiL tx fd (sngR tx fd r) 100 false false (a + 1) []).1; omega
      · rw [ifc_f h3]; exact tsR_ge a
theorem nxt_end {a : Nat} (h : fd ≤ a) : nxt tx fd a = -1 := by unfold nxt; rw [ifc_f (Nat.not_lt.mpr h)]
theorem plc_m1 : plc (-1) = -1 := by unfold plc; rw [ifc_f (by decide), ifc_f (by decide), ifc_f (by decide), ifc_f (by decide), ifc_f (by decide), ifc_f (by decide)]
theorem tst_end {a : Nat} (h : fd ≤ a) : tstA tx fd a = a ∧ ¬ tstOK tx fd a := by
  have h1 : plc (nxt tx fd a) < 0 := by rw [nxt_end h, plc_m1]; decide
  exact ⟨by unfold tstA; rw [ifc_t h1], fun q => q.1.1 h1⟩
theorem pnd_d {S : List Int32} (hS : S = [] ∨ ∃ S', S = 40 :: S') : ∀ ei bo, dropB (pnd ei bo S) = pnd ei bo S ∧ cB (pnd ei bo S) = 0 := by
  intro ei bo
  cases ei <;> cases bo <;> rcases hS with e | ⟨S', e⟩ <;> subst e <;> refine ⟨?_, ?_⟩ <;> first | rfl | exact ifc_f (by decide)
end
