/-! what a parsed condition says -/
def tkG (z : Tk) : Prop := (z.1 = 0 ∧ ∃ f r n : Nat, f ≤ 5 ∧ r ≤ 2 ∧ n ≤ 99 ∧ z.2.1 = nI f ∧ z.2.2.1 = nI r ∧ z.2.2.2 = nI n) ∨ z = Tk_no ∨ z = Tk_an ∨ z = Tk_eo
def dk (z : Tk) (d : Nat) : Nat := if z.1 = 0 then d + 1 else if z.1 = 1 then d else d - 1
def okk : List Tk → Nat → Prop
  | [], _ => True
  | z :: l, d => ((z.1 = 1 → 1 ≤ d) ∧ (2 ≤ z.1 → 2 ≤ d)) ∧ okk l (dk z d)
def dL : List Tk → Nat → Nat
  | [], d => d
  | z :: l, d => dL l (dk z d)
def nt : List Tk → Nat
  | [] => 0
  | z :: l => (if z.1 = 0 then 1 else 0) + nt l
theorem okk_app : ∀ (a b : List Tk) (d : Nat), okk a d → okk b (dL a d) → okk (a ++ b) d
  | [], _, _, _, h => h
  | z :: l, b, d, h1, h2 => ⟨h1.1, okk_app l b (dk z d) h1.2 h2⟩
theorem dL_app : ∀ (a b : List Tk) (d : Nat), dL (a ++ b) d = dL b (dL a d)
  | [], _, _ => rfl
  | z :: l, b, d => dL_app l b (dk z d)
theorem nt_app : ∀ (a b : List Tk), nt (a ++ b) = nt a + nt b
  | [], b => (Nat.zero_add _).symm
  | z :: l, b => by
    show (if z.1 = 0 then 1 else 0) + nt (l ++ b) = (if z.1 = 0 then 1 else 0) + nt l + nt b
    rw [nt_app l b, Nat.add_assoc]
/-- from any depth on, one truth more -/
def wfe (o : List Tk) (k : Nat) : Prop := (∀ d, okk o d ∧ dL o d = d + k) ∧ ∀ z, z ∈ o → tkG z
theorem wfe_nil : wfe [] 0 := ⟨fun d => ⟨trivial, rfl⟩, fun z h => by cases h⟩
theorem wfe_app {a b : List Tk} {k j : Nat} (h1 : wfe a k) (h2 : wfe b j) : wfe (a ++ b) (k + j) := by
  refine ⟨fun d => ⟨okk_app a b d (h1.1 d).1 (h2.1 _).1, ?_⟩, fun z hz => ?_⟩
  · rw [dL_app, (h1.1 d).2, (h2.1 _).2, Nat.add_assoc]
  · rcases List.mem_append.mp hz with h | h
    · exact h1.2 z h
    · exact h2.2 z h
theorem wfe_no {o : List Tk} {k : Nat} (h : wfe o (k + 1)) : wfe (o ++ [Tk_no]) (k + 1) := by
  refine ⟨fun d => ⟨okk_app o _ d (h.1 d).1 ⟨⟨fun _ => by rw [(h.1 d).2]; omega, fun q => absurd q (by decide)⟩, trivial⟩, ?_⟩, fun z hz => ?_⟩
  · rw [dL_app, (h.1 d).2]; rfl
  · rcases List.mem_append.mp hz with q | q
    · exact h.2 z q
    · rw [List.mem_singleton.mp q]; exact Or.inr (Or.inl rfl)
theorem wfe_bin {o : List Tk} {k : Nat} {z : Tk} (h : wfe o (k + 2)) (hz : z = Tk_an ∨ z = Tk_eo) : wfe (o ++ [z]) (k + 1) := by
  have h2 : 2 ≤ z.1 ∧ ∀ d, dk z d = d - 1 := by rcases hz with e | e <;> subst e <;> exact ⟨by decide, fun d => rfl⟩
  refine ⟨fun d => ⟨okk_app o _ d (h.1 d).1 ⟨⟨fun q => by omega, fun _ => by rw [(h.1 d).2]; omega⟩, trivial⟩, ?_⟩, fun y hy => ?_⟩
  · rw [dL_app, (h.1 d).2]; show dk z (d + (k + 2)) = _; rw [h2.2]; omega
  · rcases List.mem_append.mp hy with q | q
    · exact h.2 y q
    · rw [List.mem_singleton.mp q]; rcases hz with e | e <;> subst e
      · exact Or.inr (Or.inr (Or.inl rfl))
      · exact Or.inr (Or.inr (Or.inr rfl))
theorem wfe_an {o : List Tk} {k : Nat} (b : Bool) (h : wfe o (k + 1 + b2n b)) : wfe (o ++ anL b) (k + 1) := by
  cases b with
  | false => show wfe (o ++ []) (k + 1); rw [List.append_nil]; exact h
  | true => exact wfe_bin h (Or.inl rfl)
theorem wfe_eo {o : List Tk} {k : Nat} (b : Bool) (h : wfe o (k + 1 + b2n b)) : wfe (o ++ eoL b) (k + 1) := by
  cases b with
  | false => show wfe (o ++ []) (k + 1); rw [List.append_nil]; exact h
  | true => exact wfe_bin h (Or.inr rfl)
theorem nt_anL (b : Bool) : nt (anL b) = 0 := by cases b <;> rfl
theorem nt_eoL (b : Bool) : nt (eoL b) = 0 := by cases b <;> rfl
theorem dig_n {x : Int32} (h : digP x) : ∃ k, k ≤ 9 ∧ x = nI (48 + k) := by
  obtain ⟨a, b⟩ := h
  have a := Int32.le_iff_toInt_le.mp a; have b := Int32.le_iff_toInt_le.mp b
  have e0 : (48 : Int32).toInt = 48 := by decide
  have e1 : (57 : Int32).toInt = 57 := by decide
  rw [e0] at a; rw [e1] at b
  have e : x = nI (tn x) := nI_tn (by omega)
  have e2 := tn_int (x := x) (by omega)
  exact ⟨tn x - 48, by omega, by rw [show 48 + (tn x - 48) = tn x by omega]; exact e⟩
section
variable {tx : Nat → Int32} {fd : Nat}
theorem d1V_n {a : Nat} (h : digP (nxt tx fd a)) : ∃ k, k ≤ 9 ∧ d1V tx fd a = nI k := by
  obtain ⟨k, hk, e⟩ := dig_n h
  refine ⟨k, hk, ?_⟩
  rw [← d1V_e, e]
  have key : ∀ k, k ≤ 9 → nI (48 + k) - 48 = nI k := by decide +kernel
  exact key k hk
theorem d2V_n {a : Nat} (h : digP (nxt tx fd a)) (h2 : digP (nxt tx fd (a + 1))) : ∃ k, k ≤ 99 ∧ d2V tx fd a = nI k := by
  obtain ⟨k, hk, e⟩ := d1V_n h
  obtain ⟨j, hj, e2⟩ := dig_n h2
  refine ⟨10 * k + j, by omega, ?_⟩
  unfold d2V
  rw [e, e2]
  have key : ∀ k, k ≤ 9 → ∀ j, j ≤ 9 → 10 * nI k + nI (48 + j) - 48 = nI (10 * k + j) := by decide +kernel
  exact key k hk j hj
theorem clN_n {a : Nat} (h : digP (nxt tx fd a)) : ∃ k, k ≤ 99 ∧ clN tx fd a = nI k := by
  unfold clN
  by_cases h2 : digP (nxt tx fd (a + 1))
  · rw [ifc_t h2]; exact d2V_n h h2
  · rw [ifc_f h2]; obtain ⟨k, hk, e⟩ := d1V_n h; exact ⟨k, by omega, e⟩
theorem plc_n {x : Int32} (h : ¬ plc x < 0) : ∃ k, k ≤ 5 ∧ plc x = nI k := by
  unfold plc at h ⊢
  by_cases h0 : x = 112
  · rw [ifc_t h0]; exact ⟨0, by decide, rfl⟩
  by_cases h1 : x = 107
  · rw [ifc_f h0, ifc_t h1]; exact ⟨1, by decide, rfl⟩
  by_cases h2 : x = 118
  · rw [ifc_f h0, ifc_f h1, ifc_t h2]; exact ⟨2, by decide, rfl⟩
  by_cases h3 : x = 99
  · rw [ifc_f h0, ifc_f h1, ifc_f h2, ifc_t h3]; exact ⟨3, by decide, rfl⟩
  by_cases h4 : x = 103
  · rw [ifc_f h0, ifc_f h1, ifc_f h2, ifc_f h3, ifc_t h4]; exact ⟨4, by decide, rfl⟩
  by_cases h5 : x = 104
  · rw [ifc_f h0, ifc_f h1, ifc_f h2, ifc_f h3, ifc_f h4, ifc_t h5]; exact ⟨5, by decide, rfl⟩
  · rw [ifc_f h0, ifc_f h1, ifc_f h2, ifc_f h3, ifc_f h4, ifc_f h5] at h; exact absurd (by decide) h
theorem tst_G {a : Nat} (h : tstOK tx fd a) : tkG (tstT tx fd a) := by
  obtain ⟨⟨h1, h2⟩, h3⟩ := h
  obtain ⟨f, hf, ef⟩ := plc_n h1
  have er : ∃ r, r ≤ 2 ∧ nxt tx fd (a + 1) - 60 = nI r := by
    rcases relP_3 h2 with e | e | e <;> rw [e]
    · exact ⟨0, by decide, by decide⟩
    · exact ⟨1, by decide, by decide⟩
    · exact ⟨2, by decide, by decide⟩
  obtain ⟨r, hr, er⟩ := er
  obtain ⟨n, hn, en⟩ := clN_n h3
  exact Or.inl ⟨rfl, f, r, n, hf, hr, hn, ef, er, en⟩
/-- what a parser of a part gives -/
def gdP (sg : Nat → PR) : Prop := ∀ a a' o, sg a = (a', some o) → wfe o 1 ∧ 3 * nt o + a ≤ a'
theorem tsR_gdP : gdP (tsR tx fd) := by
  intro a a' o h
  by_cases ht : tstOK tx fd a
  · have e : tsR tx fd a = (tstA tx fd a, some [tstT tx fd a]) := by unfold tsR; rw [ifc_t ht]
    rw [e] at h
    have h1 : tstA tx fd a = a' := congrArg Prod.fst h
    have h2 : [tstT tx fd a] = o := Option.some.inj (congrArg Prod.snd h)
    subst h2
    refine ⟨⟨fun d => ⟨⟨⟨fun q => absurd q (show ¬ (0 : Nat) = 1 by decide), fun q => absurd q (show ¬ 2 ≤ 0 by decide)⟩, trivial⟩, rfl⟩, fun z hz => by rw [List.mem_singleton.mp hz]; exact tst_G ht⟩, ?_⟩
    have e3 : tstA tx fd a = tnA tx fd (a + 1 + 1) := by unfold tstA; rw [ifc_f ht.1.1, ifc_t ht.1.2]
    have h4 := (tnA_le ht.2).1
    show 3 * 1 + a ≤ a'
    omega
  · have e : tsR tx fd a = (tstA tx fd a, none) := by unfold tsR; rw [ifc_f ht]
    rw [e] at h
    exact absurd (congrArg Prod.snd h) (fun q => by cases q)
theorem eiL_gdP {sg : Nat → PR} (hs : gdP sg) : ∀ k ei bo a out a' o, wfe out (b2n bo + b2n ei) → eiL tx fd sg k ei bo a out = (a', some o) → wfe o 1 ∧ 3 * nt o + a ≤ a' + 3 * nt out
  | 0, _, _, _, _, _, _, _, h => absurd (congrArg Prod.snd h) (fun q => by cases q)
  | k + 1, ei, bo, a, out, a', o, hw, h => by
    rw [eiL] at h
    have hsg := hs a
    generalize hz : sg a = z at h hsg
    obtain ⟨q, zo⟩ := z
    cases zo with
    | none => exact absurd (congrArg Prod.snd h) (fun q => by cases q)
    | some o1 =>
      obtain ⟨h1, h2⟩ := hsg q o1 rfl
      have h : ifc (nxt tx fd q = 38) (eiL tx fd sg k ei true (q + 1) (out ++ o1 ++ anL bo)) (ifc (nxt tx fd q = 124) (eiL tx fd sg k true false (q + 1) (out ++ o1 ++ anL bo ++ eoL ei)) (q, some (out ++ o1 ++ anL bo ++ eoL ei))) = (a', some o) := h
      have w1 : wfe (out ++ o1 ++ anL bo) (b2n ei + 1) := wfe_an bo (by rw [show b2n ei + 1 + b2n bo = b2n bo + b2n ei + 1 by omega]; exact wfe_app hw h1)
      have w2 : wfe (out ++ o1 ++ anL bo ++ eoL ei) (0 + 1) := wfe_eo ei (by rw [show 0 + 1 + b2n ei = b2n ei + 1 by omega]; exact w1)
      have n1 : nt (out ++ o1 ++ anL bo) = nt out + nt o1 := by rw [nt_app, nt_app, nt_anL]; omega
      have n2 : nt (out ++ o1 ++ anL bo ++ eoL ei) = nt out + nt o1 := by rw [nt_app, n1, nt_eoL]; omega
      by_cases q1 : nxt tx fd q = 38
      · rw [ifc_t q1] at h
        obtain ⟨r1, r2⟩ := eiL_gdP hs k ei true (q + 1) _ a' o (by rw [show b2n true + b2n ei = b2n ei + 1 from Nat.add_comm _ _]; exact w1) h
        exact ⟨r1, by omega⟩
      · rw [ifc_f q1] at h
        by_cases q2 : nxt tx fd q = 124
        · rw [ifc_t q2] at h
          obtain ⟨r1, r2⟩ := eiL_gdP hs k true false (q + 1) _ a' o w2 h
          exact ⟨r1, by omega⟩
        · rw [ifc_f q2] at h
          have e1 : q = a' := congrArg Prod.fst h
          have e2 : out ++ o1 ++ anL bo ++ eoL ei = o := Option.some.inj (congrArg Prod.snd h)
          subst e1; subst e2
          exact ⟨w2, by omega⟩
theorem sng_gdP : ∀ r, gdP (sngR tx fd r)
  | 0 => by
    intro a a' o h
    rw [sngR] at h
    by_cases hb : nxt tx fd a = 33 ∨ nxt tx fd a = 40
    · rw [ifc_t hb] at h; exact absurd (congrArg Prod.snd h) (fun q => by cases q)
    · rw [ifc_f hb] at h; exact tsR_gdP a a' o h
  | r + 1 => by
    intro a a' o h
    have ih := sng_gdP r
    rw [sngR] at h
    by_cases h33 : nxt tx fd a = 33
    · rw [ifc_t h33] at h
      have hsg := ih (a + 1)
      generalize hz : sngR tx fd r (a + 1) = z at h hsg
      obtain ⟨q, zo⟩ := z
      cases zo with
      | none => exact absurd (congrArg Prod.snd h) (fun q => by cases q)
      | some o1 =>
        obtain ⟨h1, h2⟩ := hsg q o1 rfl
        have e1 : q = a' := congrArg Prod.fst h
        have e2 : o1 ++ [Tk_no] = o := Option.some.inj (congrArg Prod.snd h)
        subst e1; subst e2
        refine ⟨wfe_no (k := 0) h1, ?_⟩
        rw [nt_app, show nt [Tk_no] = 0 from rfl]; omega
    · rw [ifc_f h33] at h
      by_cases h40 : nxt tx fd a = 40
      · rw [ifc_t h40] at h
        have hl := eiL_gdP (tx := tx) (fd := fd) ih 100 false false (a + 1) []
        generalize eiL tx fd (sngR tx fd r) 100 false false (a + 1) [] = z at h hl
        obtain ⟨q, zo⟩ := z
        cases zo with
        | none => exact absurd (congrArg Prod.snd h) (fun q => by cases q)
        | some o1 =>
          obtain ⟨h1, h2⟩ := hl q o1 wfe_nil rfl
          have h : ifc (nxt tx fd q = 41) (q + 1, some o1) (q, none) = ((a', some o) : PR) := h
          by_cases h41 : nxt tx fd q = 41
          · rw [ifc_t h41] at h
            have e1 : q + 1 = a' := congrArg Prod.fst h
            have e2 : o1 = o := Option.some.inj (congrArg Prod.snd h)
            subst e1; subst e2
            refine ⟨h1, ?_⟩
            have e : nt ([] : List Tk) = 0 := rfl
            omega
          · rw [ifc_f h41] at h
            exact absurd (congrArg Prod.snd h) (fun q => by cases q)
      · rw [ifc_f h40] at h; exact tsR_gdP a a' o h
theorem eit_gdP {a a' : Nat} {o : List Tk} (h : eitR tx fd a = (a', some o)) : wfe o 1 ∧ 3 * nt o + a ≤ a' := by
  obtain ⟨h1, h2⟩ := eiL_gdP (tx := tx) (fd := fd) (sng_gdP 4) 100 false false a [] a' o wfe_nil h
  exact ⟨h1, h2⟩
/-- a parsed clause -/
def clG (c : Int32 × Int32 × List Tk) : Prop := (∃ k, k ≤ 99 ∧ c.2.1 = nI k) ∧ ((c.1 = 2 ∧ c.2.2 = []) ∨ ((c.1 = 0 ∨ c.1 = 1) ∧ wfe c.2.2 1 ∧ nt c.2.2 ≤ 31))
theorem clR_G {lt : Nat → Int32} {a : Nat} {c : Int32 × Int32 × List Tk} (hf : fd ≤ 100) (h : (clR tx lt fd a).2 = some c) : clG c := by
  by_cases hc : hdL tx lt fd a = 4 + 1 ∧ digP (nxt tx fd (a + hdL tx lt fd a))
  · obtain ⟨k, hk, ek⟩ := clN_n hc.2
    by_cases hw : hdW tx fd a = 2
    · rw [clR_fd hc hw] at h
      cases h
      exact ⟨⟨k, hk, ek⟩, Or.inl ⟨rfl, rfl⟩⟩
    · by_cases h32 : nxt tx fd (tnA tx fd (a + hdL tx lt fd a)) = 32
      · rw [clR_sp hc hw h32] at h
        cases e : (eitR tx fd (tnA tx fd (a + hdL tx lt fd a) + 1)).2 with
        | none => rw [e] at h; cases h
        | some o2 =>
          rw [e] at h
          cases h
          obtain ⟨h1, h2⟩ := eit_gdP (tx := tx) (fd := fd) (a := tnA tx fd (a + hdL tx lt fd a) + 1) (a' := (eitR tx fd (tnA tx fd (a + hdL tx lt fd a) + 1)).1) (Prod.ext rfl e)
          have h3 := (tnA_le hc.2).1
          have h4 := eit_in (tx := tx) (fd := fd) (a := tnA tx fd (a + hdL tx lt fd a) + 1) (by have := nxt_eq h32 (by decide); omega)
          have h5 := hc.1
          refine ⟨⟨k, hk, ek⟩, Or.inr ⟨?_, h1, ?_⟩⟩
          · show hdW tx fd a = 0 ∨ hdW tx fd a = 1
            unfold hdW at hw ⊢
            by_cases q1 : nxt tx fd a = 111
            · rw [ifc_t q1]; exact Or.inl rfl
            · rw [ifc_f q1] at hw ⊢
              by_cases q2 : nxt tx fd a = 115
              · rw [ifc_t q2]; exact Or.inr rfl
              · rw [ifc_f q2] at hw; exact absurd rfl hw
          · show nt o2 ≤ 31
            omega
      · rw [clR_ns hc hw h32] at h; cases h
  · rw [clR_hd hc] at h; cases h
theorem txR_G {lt : Nat → Int32} (hf : fd ≤ 100) : ∀ k a acc l, (∀ c, c ∈ acc → clG c) → (txR tx lt fd k a acc).2 = some l → ∀ c, c ∈ l → clG c
  | 0, _, _, _, _, h => by rw [txR] at h; cases h
  | k + 1, a, acc, l, ha, h => by
    by_cases h1 : (clR tx lt fd a).2.isSome = true
    · obtain ⟨c, hc⟩ := Option.isSome_iff_exists.mp h1
      have hg := clR_G hf hc
      have ha2 : ∀ x, x ∈ acc ++ [c] → clG x := fun x hx => by
        rcases List.mem_append.mp hx with q | q
        · exact ha x q
        · rw [List.mem_singleton.mp q]; exact hg
      by_cases h2 : (clR tx lt fd a).1 = fd
      · rw [txR_end hc h2] at h
        cases h; exact ha2
      · by_cases h3 : k = 0 ∨ ¬ nxt tx fd (clR tx lt fd a).1 = 59
        · rw [txR_bad hc h2 h3] at h; cases h
        · rw [txR_go hc h2 h3] at h
          exact txR_G hf k _ _ l ha2 h
    · rw [txR_no h1] at h; cases h
end
