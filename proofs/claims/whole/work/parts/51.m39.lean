section
variable {tx : Nat → Int32} {fd : Nat}
def inT (fd : Nat) (sg : Nat → PR) : Prop := ∀ a, a ≤ fd → (sg a).1 ≤ fd
theorem tsR_in : inT fd (tsR tx fd) := by
  intro a ha
  show tstA tx fd a ≤ fd
  unfold tstA
  by_cases h1 : plc (nxt tx fd a) < 0
  · rw [ifc_t h1]; exact ha
  · have hlt : a < fd := nxt_lt (fun q => h1 (by rw [q, plc_m1]; decide))
    rw [ifc_f h1]
    by_cases h2 : relP (nxt tx fd (a + 1))
    · have hl2 : a + 1 < fd := nxt_lt (fun q => by rw [q] at h2; exact absurd h2.1 (by decide))
      rw [ifc_t h2]
      by_cases h3 : digP (nxt tx fd (a + 1 + 1))
      · exact (tnA_le h3).2
      · rw [tnA_no h3]; omega
    · rw [ifc_f h2]; omega
theorem eiL_in {sg : Nat → PR} (hs : inT fd sg) : ∀ k ei bo a out, a ≤ fd → (eiL tx fd sg k ei bo a out).1 ≤ fd
  | 0, _, _, _, _, h => h
  | k + 1, ei, bo, a, out, h => by
    have h1 := hs a h
    rw [eiL]
    generalize sg a = z at h1
    obtain ⟨q, zo⟩ := z
    have h1 : q ≤ fd := h1
    cases zo with
    | none => exact h1
    | some o =>
      show (ifc (nxt tx fd q = 38) (eiL tx fd sg k ei true (q + 1) (out ++ o ++ anL bo)) (ifc (nxt tx fd q = 124) (eiL tx fd sg k true false (q + 1) (out ++ o ++ anL bo ++ eoL ei)) (q, some (out ++ o ++ anL bo ++ eoL ei))) : PR).1 ≤ fd
      by_cases q1 : nxt tx fd q = 38
      · have hlt := nxt_eq q1 (by decide)
        rw [ifc_t q1]; exact eiL_in hs k ei true (q + 1) _ (by omega)
      · rw [ifc_f q1]
        by_cases q2 : nxt tx fd q = 124
        · have hlt := nxt_eq q2 (by decide)
          rw [ifc_t q2]; exact eiL_in hs k true false (q + 1) _ (by omega)
        · rw [ifc_f q2]; exact h1
theorem sng_in : ∀ r, inT fd (sngR tx fd r)
  | 0 => by
    intro a ha
    rw [sngR]
    by_cases h : nxt tx fd a = 33 ∨ nxt tx fd a = 40
    · rw [ifc_t h]; exact ha
    · rw [ifc_f h]; exact tsR_in a ha
  | r + 1 => by
    intro a ha
    have ih := sng_in r
    rw [sngR]
    by_cases h33 : nxt tx fd a = 33
    · have hlt := nxt_eq h33 (by decide)
      rw [ifc_t h33]; exact ih (a + 1) (by omega)
    · rw [ifc_f h33]
      by_cases h40 : nxt tx fd a = 40
      · have hlt := nxt_eq h40 (by decide)
        rw [ifc_t h40]
        have h1 := eiL_in (tx := tx) ih 100 false false (a + 1) [] (by omega)
        generalize eiL tx fd (sngR tx fd r) 100 false false (a + 1) [] = z at h1
        obtain ⟨q, zo⟩ := z
        have h1 : q ≤ fd := h1
        cases zo with
        | none => exact h1
        | some o =>
          show (ifc (nxt tx fd q = 41) (q + 1, some o) (q, none) : PR).1 ≤ fd
          by_cases h41 : nxt tx fd q = 41
          · have hl := nxt_eq h41 (by decide)
            rw [ifc_t h41]; show q + 1 ≤ fd; omega
          · rw [ifc_f h41]; exact h1
      · rw [ifc_f h40]; exact tsR_in a ha
theorem eit_in {a : Nat} (h : a ≤ fd) : (eitR tx fd a).1 ≤ fd := eiL_in (sng_in 4) 100 false false a [] h
theorem clR_ok {lt : Nat → Int32} {a a' : Nat} {w k : Int32} {o : List Tk} (h : clR tx lt fd a = (a', some (w, k, o))) : a + 1 ≤ a' ∧ a' ≤ fd ∧ o.length + a ≤ a' := by
  unfold clR at h
  by_cases hc : hdL tx lt fd a = 4 + 1 ∧ digP (nxt tx fd (a + hdL tx lt fd a))
  · rw [ifc_t hc] at h
    have ht := tnA_le hc.2
    by_cases hw : hdW tx fd a = 2
    · rw [ifc_t hw] at h
      cases h
      exact ⟨by omega, ht.2, by show 0 + a ≤ _; omega⟩
    · rw [ifc_f hw] at h
      by_cases h32 : nxt tx fd (tnA tx fd (a + hdL tx lt fd a)) = 32
      · have hl := nxt_eq h32 (by decide)
        rw [ifc_t h32] at h
        have h1 := eit_in (tx := tx) (fd := fd) (a := tnA tx fd (a + hdL tx lt fd a) + 1) (by omega)
        have h2 := fun a' o => eit_len (tx := tx) (fd := fd) (a := tnA tx fd (a + hdL tx lt fd a) + 1) (a' := a') (o := o)
        generalize eitR tx fd (tnA tx fd (a + hdL tx lt fd a) + 1) = z at h h1 h2
        obtain ⟨q, zo⟩ := z
        have h1 : q ≤ fd := h1
        cases zo with
        | none => exact absurd (congrArg Prod.snd h) (fun q => by cases q)
        | some o1 =>
          have h3 := h2 q o1 rfl
          cases h
          exact ⟨by omega, h1, by omega⟩
      · rw [ifc_f h32] at h
        exact absurd (congrArg Prod.snd h) (fun q => by cases q)
  · rw [ifc_f hc] at h
    exact absurd (congrArg Prod.snd h) (fun q => by cases q)
end
