theorem eit_all {tx : Nat → Int32} {fd : Nat} (hf : fd ≤ 100) {a : Nat} (ha : 1 ≤ a) (dz : Int32) (sz : Nat) (sn ws : Nat → Int32) (tv : Int32) :
    ∃ out dg wt op ws' tv' k, run tx fd k true a dz sz 0 0 sn ws tv = some ((eitR tx fd a).2.isSome, (eitR tx fd a).1, dg, sz + out.length, wt, op, putL sn sz (out.map mcd), ws', tv') ∧ (∀ o, (eitR tx fd a).2 = some o → out = o ∧ tv' = nI (sz + o.length)) := by
  cases h : (eitR tx fd a).2 with
  | none =>
    obtain ⟨k, T', op', out', hk⟩ := eit_no hf ha (pr_eta _ _ h)
    obtain ⟨dg, ws', tv', hr, _⟩ := run_of sz sn k true a [] 0 [] _ _ _ _ _ dz ws tv trivial hk
    exact ⟨out', dg, T'.length, op', ws', tv', k, hr, fun o q => by cases q⟩
  | some o =>
    obtain ⟨k, hk⟩ := eit_ok hf ha (pr_eta _ _ h)
    obtain ⟨dg, ws', tv', hr, ht⟩ := run_of sz sn k true a [] 0 [] _ _ _ _ _ dz ws tv trivial hk
    exact ⟨o, dg, 0, 0, ws', tv', k, hr, fun o' q => by cases q; exact ⟨rfl, ht rfl⟩⟩
/-- one clause: where the reading stands, and its word, number, tokens -/
noncomputable def clN (tx : Nat → Int32) (fd a : Nat) : Int32 := ifc (digP (nxt tx fd (a + 1))) (d2V tx fd a) (d1V tx fd a)
abbrev CR := Nat × Option (Int32 × Int32 × List Tk)
noncomputable def clR (tx lt : Nat → Int32) (fd a : Nat) : CR :=
  ifc (hdL tx lt fd a = 4 + 1 ∧ digP (nxt tx fd (a + hdL tx lt fd a)))
    (ifc (hdW tx fd a = 2) (tnA tx fd (a + hdL tx lt fd a), some (2, clN tx fd (a + hdL tx lt fd a), []))
      (ifc (nxt tx fd (tnA tx fd (a + hdL tx lt fd a)) = 32)
        ((eitR tx fd (tnA tx fd (a + hdL tx lt fd a) + 1)).1, (eitR tx fd (tnA tx fd (a + hdL tx lt fd a) + 1)).2.map (fun o => (hdW tx fd a, clN tx fd (a + hdL tx lt fd a), o)))
        (tnA tx fd (a + hdL tx lt fd a), none)))
    (a + hdL tx lt fd a, none)
