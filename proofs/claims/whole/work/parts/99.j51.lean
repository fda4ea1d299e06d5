/-! a condition's tokens: both sides evaluate them alike -/
/-- a row holds a list from a place on -/
def atL (h : Nat → Int32) : Nat → List Int32 → Prop
  | _, [] => True
  | k, x :: l => h k = x ∧ atL h (k + 1) l
theorem atL_keep {h h2 : Nat → Int32} : ∀ (l : List Int32) (k : Nat), (∀ j, k ≤ j → j < k + l.length → h2 j = h j) → atL h k l → atL h2 k l
  | [], _, _, _ => trivial
  | x :: l, k, hj, h1 => ⟨(hj k (Nat.le_refl _) (by rw [List.length_cons]; omega)).trans h1.1, atL_keep l (k + 1) (fun j a b => hj j (by omega) (by rw [List.length_cons]; omega)) h1.2⟩
theorem atL_put : ∀ (l : List Int32) (h : Nat → Int32) (k : Nat), atL (putL h k l) k l
  | [], _, _ => trivial
  | x :: l, h, k => ⟨by rw [putL, putL_lt l _ (k + 1) k (by omega)]; exact up_at _ _ _, atL_put l (va_up h k x) (k + 1)⟩
theorem atL_app {h : Nat → Int32} : ∀ (a b : List Int32) (k : Nat), atL h k (a ++ b) ↔ atL h k a ∧ atL h (k + a.length) b
  | [], b, k => ⟨fun q => ⟨trivial, q⟩, fun q => q.2⟩
  | x :: a, b, k => by
    have ih := atL_app (h := h) a b (k + 1)
    have e : k + (x :: a).length = k + 1 + a.length := by rw [List.length_cons]; omega
    rw [e]
    exact ⟨fun q => ⟨⟨q.1, (ih.mp q.2).1⟩, (ih.mp q.2).2⟩, fun q => ⟨q.1.1, ih.mpr ⟨q.1.2, q.2⟩⟩⟩
noncomputable def bof (P : Prop) : Bool := @decide P (Classical.propDecidable P)
theorem bof_t {P : Prop} (h : P) : bof P = true := by unfold bof; exact @decide_eq_true P (Classical.propDecidable P) h
theorem bof_f {P : Prop} (h : ¬ P) : bof P = false := by unfold bof; exact @decide_eq_false P (Classical.propDecidable P) h
theorem bq_bof (P : Prop) : bq P = bb (bof P) := by
  by_cases h : P
  · rw [bq_t h, bof_t h]; rfl
  · rw [bq_f h, bof_f h]; rfl
theorem bq_b {P : Prop} {b : Bool} (h : P ↔ b = true) : bq P = bb b := by
  cases b
  · exact bq_f (fun q => absurd (h.mp q) (by decide))
  · exact bq_t (h.mpr rfl)
noncomputable def tvB (fx : Int32 → Int32) (z : Tk) : Bool := ifc (z.2.2.1 = 0) (bof (fx z.2.1 < z.2.2.2)) (ifc (z.2.2.1 = 1) (bof (fx z.2.1 = z.2.2.2)) (bof (z.2.2.2 < fx z.2.1)))
/-- one token on a stack of truths -/
noncomputable def evs (fx : Int32 → Int32) (z : Tk) (s : List Bool) : List Bool :=
  if z.1 = 0 then tvB fx z :: s else if z.1 = 1 then (match s with | [] => [] | a :: t => (!a) :: t) else if z.1 = 2 then (match s with | a :: b :: t => (b && a) :: t | _ => s) else (match s with | a :: b :: t => (b || a) :: t | _ => s)
noncomputable def evl (fx : Int32 → Int32) : List Tk → List Bool → List Bool
  | [], s => s
  | z :: l, s => evl fx l (evs fx z s)
theorem evs_len {fx : Int32 → Int32} {z : Tk} {s : List Bool} (hg : tkG z) (h : (z.1 = 1 → 1 ≤ s.length) ∧ (2 ≤ z.1 → 2 ≤ s.length)) : (evs fx z s).length = dk z s.length := by
  rcases hg with ⟨h0, _⟩ | e | e | e
  · unfold evs dk; rw [if_pos h0, if_pos h0, List.length_cons]
  · subst e
    match s, h.1 rfl with
    | a :: t, _ => rfl
  · subst e
    match s, h.2 (by decide) with
    | a :: b :: t, _ => rfl
    | [a], q => exact absurd q (show ¬ 2 ≤ 1 by decide)
  · subst e
    match s, h.2 (by decide) with
    | a :: b :: t, _ => rfl
    | [a], q => exact absurd q (show ¬ 2 ≤ 1 by decide)
/-- a row holds a stack, its first at the bottom -/
def stk (f : Nat → Int32) : List Bool → Prop
  | [] => True
  | b :: t => f t.length = bb b ∧ stk f t
theorem stk_up {f : Nat → Int32} (w : Nat) (v : Int32) : ∀ {s : List Bool}, stk f s → s.length ≤ w → stk (va_up f w v) s
  | [], _, _ => trivial
  | b :: t, h, hw => ⟨by rw [up_off _ _ (by rw [List.length_cons] at hw; omega)]; exact h.1, stk_up w v h.2 (by rw [List.length_cons] at hw; omega)⟩
theorem bb_0 (b : Bool) : bb b = 0 ↔ b = false := by cases b <;> decide
theorem m_tok {z : Tk} (hg : tkG z) : (z.1 = 0 → ¬ mcd z = -33 ∧ ¬ mcd z < 0) ∧ (z.1 = 1 → mcd z = -33) ∧ (2 ≤ z.1 → ¬ mcd z = -33 ∧ mcd z < 0) := by
  rcases hg with ⟨h0, f, r, n, hf, hr, hn, ef, er, en⟩ | e | e | e
  · refine ⟨fun _ => ?_, fun q => absurd (h0.symm.trans q) (by decide), fun q => absurd q (by omega)⟩
    have e : mcd z = nI (1000 * f + 100 * r + n) := by
      unfold mcd
      rw [ifc_t h0, ef, er, en]
      show nI 1000 * nI f + nI 100 * nI r + nI n = _
      rw [pk_mul, pk_mul, nI_add, nI_add]
    have q := nI_toInt (n := 1000 * f + 100 * r + n) (by omega)
    rw [e]
    constructor
    · intro w; rw [w] at q
      rw [show ((-33 : Int32)).toInt = -33 from rfl] at q; omega
    · intro w
      have w := Int32.lt_iff_toInt_lt.mp w
      rw [q, show ((0 : Int32)).toInt = 0 from rfl] at w; omega
  · subst e; exact ⟨fun q => absurd q (by decide), fun _ => mcd_no, fun q => absurd q (by decide)⟩
  · subst e; exact ⟨fun q => absurd q (by decide), fun q => absurd q (by decide), fun _ => by rw [mcd_an]; decide⟩
  · subst e; exact ⟨fun q => absurd q (by decide), fun q => absurd q (by decide), fun _ => by rw [mcd_eo]; decide⟩
theorem m_tkv {fx : Int32 → Int32} {z : Tk} (hg : tkG z) (h0 : z.1 = 0) : tkv fx (mcd z) = bb (tvB fx z) := by
  rcases hg with ⟨_, f, r, n, hf, hr, hn, ef, er, en⟩ | e | e | e
  · have e : mcd z = nI (1000 * f + 100 * r + n) := by
      unfold mcd
      rw [ifc_t h0, ef, er, en]
      show nI 1000 * nI f + nI 100 * nI r + nI n = _
      rw [pk_mul, pk_mul, nI_add, nI_add]
    have e1 : mcd z / 1000 = nI f := by
      rw [e]; show _ / nI 1000 = _
      rw [pk_div (by omega) (by decide) (by decide), show (1000 * f + 100 * r + n) / 1000 = f by omega]
    have e2 : mcd z / 100 = nI (10 * f + r) := by
      rw [e]; show _ / nI 100 = _
      rw [pk_div (by omega) (by decide) (by decide), show (1000 * f + 100 * r + n) / 100 = 10 * f + r by omega]
    have e3 : mcd z / 100 - mcd z / 100 / 10 * 10 = nI r := by
      rw [e2]; show nI (10 * f + r) - nI (10 * f + r) / nI 10 * nI 10 = _
      rw [pk_rem (by omega) (by decide) (by decide), show (10 * f + r) % 10 = r by omega]
    have e4 : mcd z - mcd z / 100 * 100 = nI n := by
      rw [e]; show nI (1000 * f + 100 * r + n) - nI (1000 * f + 100 * r + n) / nI 100 * nI 100 = _
      rw [pk_rem (by omega) (by decide) (by decide), show (1000 * f + 100 * r + n) % 100 = n by omega]
    unfold tkv tvB
    rw [e1, e3, e4, ef, er, en]
    by_cases q0 : nI r = 0
    · rw [ifc_t q0, ifc_t q0]; exact bq_bof _
    · rw [ifc_f q0, ifc_f q0]
      by_cases q1 : nI r = 1
      · rw [ifc_t q1, ifc_t q1]; exact bq_bof _
      · rw [ifc_f q1, ifc_f q1]; exact bq_bof _
  · subst e; exact absurd h0 (by decide)
  · subst e; exact absurd h0 (by decide)
  · subst e; exact absurd h0 (by decide)
theorem m_dp {tok : Nat → Int32} {i : Nat} {z : Tk} (hg : tkG z) (ht : tok i = mcd z) : dp tok (i + 1) = dk z (dp tok i) := by
  obtain ⟨a, b, c⟩ := m_tok hg
  rw [dp, ht]
  unfold dk
  by_cases h0 : z.1 = 0
  · rw [ifc_f (a h0).1, ifc_f (a h0).2, if_pos h0]
  · rw [if_neg h0]
    by_cases h1 : z.1 = 1
    · rw [ifc_t (b h1), if_pos h1]
    · rw [ifc_f (c (by omega)).1, ifc_t (c (by omega)).2, if_neg h1]
theorem m_stp {fx : Int32 → Int32} {z : Tk} {s : List Bool} {f : Nat → Int32} (hg : tkG z) (h : (z.1 = 1 → 1 ≤ s.length) ∧ (2 ≤ z.1 → 2 ≤ s.length)) (hs : stk f s) : stk (pstp fx (mcd z) s.length f) (evs fx z s) := by
  have hm := m_tok hg
  have hv := m_tkv (fx := fx) hg
  unfold pstp
  rcases hg with ⟨h0, _⟩ | e | e | e
  · rw [ifc_f (hm.1 h0).1, ifc_f (hm.1 h0).2, hv h0]
    unfold evs; rw [if_pos h0]
    exact ⟨up_at _ _ _, stk_up _ _ hs (Nat.le_refl _)⟩
  · subst e
    rw [mcd_no, ifc_t rfl]
    match s, h.1 rfl, hs with
    | a :: t, _, hs =>
      refine ⟨?_, stk_up _ _ hs.2 (by rw [List.length_cons]; omega)⟩
      show va_up f t.length (bq (f t.length = 0)) t.length = _
      rw [up_at, hs.1]
      cases a <;> exact bq_b (by decide)
  · subst e
    rw [mcd_an, ifc_f (by decide), ifc_t (by decide)]
    match s, h.2 (by decide), hs with
    | a :: b :: t, _, hs =>
      refine ⟨?_, stk_up _ _ hs.2.2 (by rw [List.length_cons, List.length_cons]; omega)⟩
      show va_up f t.length (ifc _ (bq (¬ f t.length = 0 ∧ ¬ f (t.length + 1) = 0)) (bq (¬ f t.length = 0 ∨ ¬ f (t.length + 1) = 0))) t.length = _
      rw [up_at, ifc_t rfl, hs.2.1]
      rw [show f (t.length + 1) = bb a from hs.1]
      cases a <;> cases b <;> exact bq_b (by decide)
    | [a], q, _ => exact absurd q (show ¬ 2 ≤ 1 by decide)
  · subst e
    rw [mcd_eo, ifc_f (by decide), ifc_t (by decide)]
    match s, h.2 (by decide), hs with
    | a :: b :: t, _, hs =>
      refine ⟨?_, stk_up _ _ hs.2.2 (by rw [List.length_cons, List.length_cons]; omega)⟩
      show va_up f t.length (ifc _ (bq (¬ f t.length = 0 ∧ ¬ f (t.length + 1) = 0)) (bq (¬ f t.length = 0 ∨ ¬ f (t.length + 1) = 0))) t.length = _
      rw [up_at, ifc_f (by decide), hs.2.1]
      rw [show f (t.length + 1) = bb a from hs.1]
      cases a <;> cases b <;> exact bq_b (by decide)
    | [a], q, _ => exact absurd q (show ¬ 2 ≤ 1 by decide)
theorem m_run {fx : Int32 → Int32} {tok f0 : Nat → Int32} : ∀ (o : List Tk) (i : Nat) (s : List Bool), atL tok i (o.map mcd) → dp tok i = s.length → okk o s.length → (∀ z, z ∈ o → tkG z) → stk (pst fx tok f0 i) s →
    dp tok (i + o.length) = (evl fx o s).length ∧ stk (pst fx tok f0 (i + o.length)) (evl fx o s) ∧ ∀ j, i ≤ j → j < i + o.length → (tok j = -33 → 1 ≤ dp tok j) ∧ (¬ tok j = -33 → tok j < 0 → 2 ≤ dp tok j)
  | [], i, s, _, hd, _, _, hs => ⟨hd, hs, fun j a b => absurd (Nat.lt_of_le_of_lt a b) (Nat.lt_irrefl i)⟩
  | z :: o, i, s, ha, hd, hk, hg, hs => by
    have hgz := hg z List.mem_cons_self
    have e1 := evs_len (fx := fx) hgz hk.1
    have e2 := m_dp hgz ha.1
    have hs2 : stk (pst fx tok f0 (i + 1)) (evs fx z s) := by
      rw [pst, ha.1, hd]; exact m_stp hgz hk.1 hs
    obtain ⟨r1, r2, r3⟩ := m_run o (i + 1) (evs fx z s) ha.2 (by rw [e2, e1, hd]) (by rw [e1]; exact hk.2) (fun y hy => hg y (List.mem_cons_of_mem _ hy)) hs2
    rw [show i + (z :: o).length = i + 1 + o.length by rw [List.length_cons]; omega]
    refine ⟨r1, r2, fun j a b => ?_⟩
    by_cases q : j = i
    · subst q
      obtain ⟨m1, m2, m3⟩ := m_tok hgz
      rw [ha.1, hd]
      by_cases h0 : z.1 = 0
      · exact ⟨fun w => absurd w (m1 h0).1, fun _ w => absurd w (m1 h0).2⟩
      · by_cases h1 : z.1 = 1
        · exact ⟨fun _ => hk.1.1 h1, fun w => absurd (m2 h1) w⟩
        · exact ⟨fun w => absurd w (m3 (by omega)).1, fun _ _ => hk.1.2 (by omega)⟩
    · exact r3 j (by omega) b
/-- a whole condition's truth -/
noncomputable def tru (fx : Int32 → Int32) (o : List Tk) : Bool := (evl fx o []).headD false
theorem evl_one {fx : Int32 → Int32} {o : List Tk} : ∀ {s : List Bool}, okk o s.length → (∀ z, z ∈ o → tkG z) → (evl fx o s).length = dL o s.length := by
  induction o with
  | nil => intro s _ _; rfl
  | cons z o ih =>
    intro s hk hg
    have e1 := evs_len (fx := fx) (hg z List.mem_cons_self) hk.1
    show (evl fx o (evs fx z s)).length = dL o (dk z s.length)
    rw [ih (by rw [e1]; exact hk.2) (fun y hy => hg y (List.mem_cons_of_mem _ hy)), e1]
theorem tru_e {fx : Int32 → Int32} {o : List Tk} (hw : wfe o 1) : evl fx o [] = [tru fx o] := by
  have h := evl_one (fx := fx) (s := []) (hw.1 0).1 hw.2
  rw [show ([] : List Bool).length = 0 from rfl, (hw.1 0).2] at h
  unfold tru
  match evl fx o [], h with
  | [b], _ => rfl
theorem m_hv {fx : Int32 → Int32} {tok : Nat → Int32} {o : List Tk} (hw : wfe o 1) (ha : atL tok 0 (o.map mcd)) : tkOK tok o.length ∧ hv fx tok o.length = bb (tru fx o) := by
  obtain ⟨r1, r2, r3⟩ := m_run (fx := fx) (f0 := fun _ => 0) o 0 [] ha rfl (hw.1 0).1 hw.2 trivial
  rw [Nat.zero_add] at r1 r2 r3
  rw [tru_e hw] at r1 r2
  exact ⟨⟨fun i hi => r3 i (Nat.zero_le _) hi, r1⟩, r2.1⟩
