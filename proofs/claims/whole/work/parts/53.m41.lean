/-- what a text's reading leaves -/
def Ptx (I : Ty) (L0 : TL) (R0 : TR) (N0 : TN) (n0 f : Nat) (z : Nat × Option ClL) : Post := fun v I' L R N n => v = some (.int (bq (z.2.isSome = true))) ∧ (∃ (dg : Int32) (sg wt : Nat) (op : Int32) (sn ws : Nat → Int32) (B : Ty), I' = pI B (nI z.1) dg (nI sg) (nI wt) op sn ws ∧ tjn f I B ∧ (∀ j, j < 100 * f → sn j = I 80 j) ∧ (∀ l, z.2 = some l → l.length ≤ 10 ∧ 1 ≤ l.length ∧ B 75 f = nI l.length ∧ enc B (10 * f) (100 * f) l ∧ sn = putL (I 80) (100 * f) ((toks l).map mcd) ∧ (toks l).length ≤ 100)) ∧ L = L0 ∧ R = R0 ∧ N = N0 ∧ n = n0
theorem putL_lt : ∀ (l : List Int32) (sn : Nat → Int32) (k j : Nat), j < k → putL sn k l j = sn j
  | [], _, _, _, _ => rfl
  | x :: l, sn, k, j, h => by
    show putL (va_up sn k x) (k + 1) l j = sn j
    rw [putL_lt l _ (k + 1) j (by omega)]
    exact up_off _ _ (by omega)
