/-- the clauses' rows hold these clauses from clause c and sign s on -/
def enc (B : Ty) : Nat → Nat → ClL → Prop
  | _, _, [] => True
  | c, s, x :: t => B 76 c = x.1 ∧ B 77 c = x.2.1 ∧ (x.1 = 2 ∨ (B 78 c = nI s ∧ B 79 c = nI (s + x.2.2.length))) ∧ enc B (c + 1) (s + x.2.2.length) t
def toks : ClL → List Tk
  | [] => []
  | x :: t => x.2.2 ++ toks t
theorem toks_app : ∀ (a b : ClL), toks (a ++ b) = toks a ++ toks b
  | [], _ => rfl
  | x :: t, b => by
    show x.2.2 ++ toks (t ++ b) = x.2.2 ++ toks t ++ toks b
    rw [toks_app t b, List.append_assoc]
theorem toks_one (x : Int32 × Int32 × List Tk) : toks [x] = x.2.2 := List.append_nil _
theorem enc_keep {B B2 : Ty} : ∀ (l : ClL) (c s : Nat), (∀ j, c ≤ j → j < c + l.length → B2 76 j = B 76 j ∧ B2 77 j = B 77 j ∧ B2 78 j = B 78 j ∧ B2 79 j = B 79 j) → enc B c s l → enc B2 c s l
  | [], _, _, _, _ => trivial
  | x :: t, c, s, hk, h => by
    have e0 : (x :: t).length = t.length + 1 := rfl
    obtain ⟨k1, k2, k3, k4⟩ := hk c (Nat.le_refl _) (by omega)
    refine ⟨k1.trans h.1, k2.trans h.2.1, h.2.2.1.imp id (fun q => ⟨k3.trans q.1, k4.trans q.2⟩), enc_keep t (c + 1) _ (fun j h1 h2 => hk j (by omega) (by omega)) h.2.2.2⟩
theorem enc_snoc {B : Ty} {x : Int32 × Int32 × List Tk} : ∀ (l : ClL) (c s : Nat), enc B c s l → B 76 (c + l.length) = x.1 → B 77 (c + l.length) = x.2.1 → (x.1 = 2 ∨ (B 78 (c + l.length) = nI (s + (toks l).length) ∧ B 79 (c + l.length) = nI (s + (toks l).length + x.2.2.length))) → enc B c s (l ++ [x])
  | [], _, _, _, h1, h2, h3 => ⟨h1, h2, h3, trivial⟩
  | y :: t, c, s, h, h1, h2, h3 => by
    have e0 : c + (y :: t).length = c + 1 + t.length := by rw [List.length_cons]; omega
    have e1 : s + (toks (y :: t)).length = s + y.2.2.length + (toks t).length := by
      show s + (y.2.2 ++ toks t).length = _
      rw [List.length_append]; omega
    rw [e0] at h1 h2 h3
    rw [e1] at h3
    exact ⟨h.1, h.2.1, h.2.2.1, enc_snoc t (c + 1) _ h.2.2.2 h1 h2 h3⟩
/-- B is I but for nation f's clauses -/
def tjn (f : Nat) (I B : Ty) : Prop := (∀ x, x ≠ 75 → x ≠ 76 → x ≠ 77 → x ≠ 78 → x ≠ 79 → B x = I x) ∧ (∀ j, j < 10 * f → B 76 j = I 76 j ∧ B 77 j = I 77 j ∧ B 78 j = I 78 j ∧ B 79 j = I 79 j) ∧ ∀ j, j ≠ f → B 75 j = I 75 j
theorem tjn_c {f c : Nat} {I B B2 : Ty} (h : tjn f I B) (hc : cjn c B B2) (hf : 10 * f ≤ c) : tjn f I B2 := by
  refine ⟨fun x h1 h2 h3 h4 h5 => (hc.1 x h2 h3 h4 h5).trans (h.1 x h1 h2 h3 h4 h5), fun j hj => ?_, fun j hj => ?_⟩
  · obtain ⟨a1, a2, a3, a4⟩ := hc.2 j (by omega)
    obtain ⟨b1, b2, b3, b4⟩ := h.2.1 j hj
    exact ⟨a1.trans b1, a2.trans b2, a3.trans b3, a4.trans b4⟩
  · rw [hc.1 75 (by decide) (by decide) (by decide) (by decide)]; exact h.2.2 j hj
theorem tjn_75 {f : Nat} {I B : Ty} (h : tjn f I B) (v : Int32) : tjn f I (wr B 75 f v) := by
  refine ⟨fun x h1 h2 h3 h4 h5 => (up_off _ _ h1).trans (h.1 x h1 h2 h3 h4 h5), fun j hj => h.2.1 j hj, fun j hj => ?_⟩
  exact (up_off _ _ hj).trans (h.2.2 j hj)
