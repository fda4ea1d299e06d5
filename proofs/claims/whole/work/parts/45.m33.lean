section
variable {tx : Nat → Int32} {fd : Nat}
theorem nI_ne4 {q : Nat} (h : q < 4) : ¬ nI q = 4 := by
  intro e
  have h1 := congrArg tn e
  rw [tn_nI (by omega)] at h1
  have h2 : tn (4 : Int32) = 4 := rfl
  omega
theorem sng_run (hf : fd ≤ 100) : ∀ r, sngOK tx fd r
  | 0 => by
    intro a T op pre hop
    have hop : op = 4 := by omega
    subst hop
    by_cases h : nxt tx fd a = 33 ∨ nxt tx fd a = 40
    · rw [sngR, ifc_t h]
      refine ⟨fun a' o q => absurd (congrArg Prod.snd q) (fun q => by cases q), fun a' q => ?_⟩
      have h1 : a = a' := congrArg Prod.fst q
      subst h1
      exact ⟨1, T, nI 4, pre, by rw [runL, ifc_t h, ifc_t (show nI 4 = 4 from rfl)]⟩
    · rw [sngR, ifc_f h]; exact ts_run h
  | r + 1 => by
    intro a T op pre hop
    have ih := sng_run hf r
    have h4 := nI_ne4 (q := op) (by omega)
    by_cases h33 : nxt tx fd a = 33
    · rw [sngR, ifc_t h33]
      obtain ⟨ha, hb⟩ := ih (a + 1) (33 :: T) (op + 1) pre (by omega)
      have hdr : dropB (33 :: T) = dropB T := ifc_t rfl
      have hcb : cB (33 :: T) = cB T + 1 := ifc_t rfl
      have stp : ∀ k, runL tx fd (k + 1) true a T (nI op) pre = runL tx fd k true (a + 1) (33 :: T) (nI (op + 1)) pre := by
        intro k; rw [runL, ifc_t (Or.inl h33), ifc_f h4, h33, nI_1]
      generalize hz : sngR tx fd r (a + 1) = z at ha hb
      obtain ⟨q, zo⟩ := z
      cases zo with
      | none =>
        refine ⟨fun a' o h => absurd (congrArg Prod.snd h) (fun q => by cases q), fun a' h => ?_⟩
        have h1 : q = a' := congrArg Prod.fst h
        subst h1
        obtain ⟨k, T', op', out', hk⟩ := hb q rfl
        exact ⟨k + 1, T', op', out', (stp k).trans hk⟩
      | some o =>
        refine ⟨fun a' o' h st hk => ?_, fun a' h => absurd (congrArg Prod.snd h) (fun q => by cases q)⟩
        have h1 : q = a' := congrArg Prod.fst h
        have h2 : o ++ [Tk_no] = o' := Option.some.inj (congrArg Prod.snd h)
        subst h1; subst h2
        have e1 : pre ++ (o ++ [Tk_no]) ++ noL (cB T) = pre ++ o ++ noL (cB T + 1) := by
          rw [show noL (cB T + 1) = [Tk_no] ++ noL (cB T) from rfl]; simp only [List.append_assoc]
        have e2 : nI op - nI (cB T) = nI (op + 1) - nI (cB T + 1) := by rw [← nI_1 op, i32_2]
        rw [e1, e2] at hk
        obtain ⟨k, hk⟩ := ha q o rfl st (by rw [hdr, hcb]; exact hk)
        exact ⟨k + 1, (stp k).trans hk⟩
    · rw [sngR, ifc_f h33]
      by_cases h40 : nxt tx fd a = 40
      · rw [ifc_t h40]
        obtain ⟨ha, hb⟩ := ei_run (tx := tx) (fd := fd) ih 100 false false (a + 1) (40 :: T) (op + 1) pre [] (by omega) (by omega) (Or.inr ⟨T, rfl⟩)
        rw [List.append_nil] at ha hb
        have stp : ∀ k, runL tx fd (k + 1) true a T (nI op) pre = runL tx fd k true (a + 1) (pnd false false (40 :: T)) (nI (op + 1)) pre := by
          intro k; rw [runL, ifc_t (Or.inr h40), ifc_f h4, h40, nI_1]; rfl
        generalize hz : eiL tx fd (sngR tx fd r) 100 false false (a + 1) [] = z at ha hb
        obtain ⟨q, zo⟩ := z
        cases zo with
        | none =>
          refine ⟨fun a' o h => absurd (congrArg Prod.snd h) (fun q => by cases q), fun a' h => ?_⟩
          have h1 : q = a' := congrArg Prod.fst h
          subst h1
          obtain ⟨k, T', op', out', hk⟩ := hb q rfl
          exact ⟨k + 1, T', op', out', (stp k).trans hk⟩
        | some o =>
          have epar : parR tx fd (q, some o) = ifc (nxt tx fd q = 41) (q + 1, some o) (q, none) := rfl
          rw [epar]
          by_cases h41 : nxt tx fd q = 41
          · rw [ifc_t h41]
            refine ⟨fun a' o' h st hk => ?_, fun a' h => absurd (congrArg Prod.snd h) (fun q => by cases q)⟩
            have h1 : q + 1 = a' := congrArg Prod.fst h
            have h2 : o = o' := Option.some.inj (congrArg Prod.snd h)
            subst h1; subst h2
            obtain ⟨k, hk⟩ := hk
            obtain ⟨k2, hk2⟩ := ha q o rfl st ⟨k, by
              unfold finL
              rw [ifc_f (by intro e; cases e), ifc_t h41, ← nI_1 op, Int32.add_sub_cancel]
              exact hk⟩
            exact ⟨k2 + 1, (stp k2).trans hk2⟩
          · rw [ifc_f h41]
            refine ⟨fun a' o' h => absurd (congrArg Prod.snd h) (fun q => by cases q), fun a' h => ?_⟩
            have h1 : q = a' := congrArg Prod.fst h
            subst h1
            obtain ⟨k2, hk2⟩ := ha q o rfl (false, q, 40 :: T, nI (op + 1), pre ++ o) ⟨0, by
              unfold finL
              rw [ifc_f (by intro e; cases e), ifc_f h41]⟩
            exact ⟨k2 + 1, 40 :: T, nI (op + 1), pre ++ o, (stp k2).trans hk2⟩
      · rw [ifc_f h40]; exact ts_run (fun q => q.elim h33 h40)
/-- a whole condition -/
noncomputable def eitR (tx : Nat → Int32) (fd a : Nat) : PR := eiL tx fd (sngR tx fd 4) 100 false false a []
theorem eit_ok (hf : fd ≤ 100) {a a' : Nat} {o : List Tk} (ha : 1 ≤ a) (h : eitR tx fd a = (a', some o)) : ∃ k, runL tx fd k true a [] 0 [] = some (true, a', [], 0, o) := by
  obtain ⟨h1, _⟩ := ei_run (tx := tx) (fd := fd) (sng_run hf 4) 100 false false a [] 0 [] [] (by omega) rfl (Or.inl rfl)
  exact h1 a' o h (true, a', [], nI 0, o) ⟨0, by unfold finL; rw [ifc_t rfl]; rfl⟩
theorem eit_no (hf : fd ≤ 100) {a a' : Nat} (ha : 1 ≤ a) (h : eitR tx fd a = (a', none)) : ∃ k, failsAt a' (runL tx fd k true a [] 0 []) := by
  obtain ⟨_, h1⟩ := ei_run (tx := tx) (fd := fd) (sng_run hf 4) 100 false false a [] 0 [] [] (by omega) rfl (Or.inl rfl)
  exact h1 a' h
end
