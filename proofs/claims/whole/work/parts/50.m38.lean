def b2n (b : Bool) : Nat := match b with | true => 1 | false => 0
theorem anL_len (b : Bool) : (anL b).length = b2n b := by cases b <;> rfl
theorem eoL_len (b : Bool) : (eoL b).length = b2n b := by cases b <;> rfl
section
variable {tx : Nat → Int32} {fd : Nat}
/-- no more tokens than signs read -/
def lenOK (sg : Nat → PR) : Prop := ∀ a a' o, sg a = (a', some o) → o.length + a ≤ a'
theorem tsR_len : lenOK (tsR tx fd) := by
  intro a a' o h
  by_cases ht : tstOK tx fd a
  · have e : tsR tx fd a = (tstA tx fd a, some [tstT tx fd a]) := by unfold tsR; rw [ifc_t ht]
    rw [e] at h
    have h1 : tstA tx fd a = a' := congrArg Prod.fst h
    have h2 : [tstT tx fd a] = o := Option.some.inj (congrArg Prod.snd h)
    have h3 := tst_le ht
    subst h2
    show 1 + a ≤ a'
    omega
  · have e : tsR tx fd a = (tstA tx fd a, none) := by unfold tsR; rw [ifc_f ht]
    rw [e] at h
    exact absurd (congrArg Prod.snd h) (fun q => by cases q)
theorem eiL_len {sg : Nat → PR} (hs : lenOK sg) : ∀ k ei bo a out a' o, eiL tx fd sg k ei bo a out = (a', some o) → o.length + a ≤ a' + out.length + b2n bo + b2n ei
  | 0, _, _, _, _, _, _, h => absurd (congrArg Prod.snd h) (fun q => by cases q)
  | k + 1, ei, bo, a, out, a', o, h => by
    rw [eiL] at h
    have hsg := hs a
    generalize hz : sg a = z at h hsg
    obtain ⟨q, zo⟩ := z
    cases zo with
    | none => exact absurd (congrArg Prod.snd h) (fun q => by cases q)
    | some o1 =>
      have h1 := hsg q o1 rfl
      have h : ifc (nxt tx fd q = 38) (eiL tx fd sg k ei true (q + 1) (out ++ o1 ++ anL bo)) (ifc (nxt tx fd q = 124) (eiL tx fd sg k true false (q + 1) (out ++ o1 ++ anL bo ++ eoL ei)) (q, some (out ++ o1 ++ anL bo ++ eoL ei))) = (a', some o) := h
      by_cases q1 : nxt tx fd q = 38
      · rw [ifc_t q1] at h
        have ih := eiL_len hs k ei true (q + 1) _ a' o h
        rw [List.length_append, List.length_append, anL_len, show b2n true = 1 from rfl] at ih
        omega
      · rw [ifc_f q1] at h
        by_cases q2 : nxt tx fd q = 124
        · rw [ifc_t q2] at h
          have ih := eiL_len hs k true false (q + 1) _ a' o h
          rw [List.length_append, List.length_append, List.length_append, anL_len, eoL_len, show b2n true = 1 from rfl, show b2n false = 0 from rfl] at ih
          omega
        · rw [ifc_f q2] at h
          have e1 : q = a' := congrArg Prod.fst h
          have e2 : out ++ o1 ++ anL bo ++ eoL ei = o := Option.some.inj (congrArg Prod.snd h)
          subst e1; subst e2
          rw [List.length_append, List.length_append, List.length_append, anL_len, eoL_len]
          omega
theorem sng_len : ∀ r, lenOK (sngR tx fd r)
  | 0 => by
    intro a a' o h
    rw [sngR] at h
    by_cases hb : nxt tx fd a = 33 ∨ nxt tx fd a = 40
    · rw [ifc_t hb] at h; exact absurd (congrArg Prod.snd h) (fun q => by cases q)
    · rw [ifc_f hb] at h; exact tsR_len a a' o h
  | r + 1 => by
    intro a a' o h
    have ih := sng_len r
    rw [sngR] at h
    by_cases h33 : nxt tx fd a = 33
    · rw [ifc_t h33] at h
      have hsg := ih (a + 1)
      generalize hz : sngR tx fd r (a + 1) = z at h hsg
      obtain ⟨q, zo⟩ := z
      cases zo with
      | none => exact absurd (congrArg Prod.snd h) (fun q => by cases q)
      | some o1 =>
        have h1 := hsg q o1 rfl
        have e1 : q = a' := congrArg Prod.fst h
        have e2 : o1 ++ [Tk_no] = o := Option.some.inj (congrArg Prod.snd h)
        subst e1; subst e2
        rw [List.length_append, show ([Tk_no] : List Tk).length = 1 from rfl]
        omega
    · rw [ifc_f h33] at h
      by_cases h40 : nxt tx fd a = 40
      · rw [ifc_t h40] at h
        have hl := eiL_len (tx := tx) (fd := fd) ih 100 false false (a + 1) []
        generalize eiL tx fd (sngR tx fd r) 100 false false (a + 1) [] = z at h hl
        obtain ⟨q, zo⟩ := z
        cases zo with
        | none => exact absurd (congrArg Prod.snd h) (fun q => by cases q)
        | some o1 =>
          have h1 := hl q o1 rfl
          rw [show ([] : List Tk).length = 0 from rfl, show b2n false = 0 from rfl] at h1
          have h : ifc (nxt tx fd q = 41) (q + 1, some o1) (q, none) = ((a', some o) : PR) := h
          by_cases h41 : nxt tx fd q = 41
          · rw [ifc_t h41] at h
            have e1 : q + 1 = a' := congrArg Prod.fst h
            have e2 : o1 = o := Option.some.inj (congrArg Prod.snd h)
            subst e1; subst e2
            omega
          · rw [ifc_f h41] at h
            exact absurd (congrArg Prod.snd h) (fun q => by cases q)
      · rw [ifc_f h40] at h; exact tsR_len a a' o h
theorem eit_len {a a' : Nat} {o : List Tk} (h : eitR tx fd a = (a', some o)) : o.length + a ≤ a' := by
  have h1 := eiL_len (tx := tx) (fd := fd) (sng_len 4) 100 false false a [] a' o h
  rw [show ([] : List Tk).length = 0 from rfl, show b2n false = 0 from rfl] at h1
  omega
end
abbrev ClL := List (Int32 × Int32 × List Tk)
/-- a whole text: where the reading stands, and its clauses -/
noncomputable def txR (tx lt : Nat → Int32) (fd : Nat) : Nat → Nat → ClL → Nat × Option ClL
  | 0, a, _ => (a, none)
  | k + 1, a, acc => match (clR tx lt fd a).2 with
    | none => ((clR tx lt fd a).1, none)
    | some c => ifc ((clR tx lt fd a).1 = fd) ((clR tx lt fd a).1, some (acc ++ [c]))
        (ifc (k = 0 ∨ ¬ nxt tx fd (clR tx lt fd a).1 = 59) ((clR tx lt fd a).1, none) (txR tx lt fd k ((clR tx lt fd a).1 + 1) (acc ++ [c])))
