/-- the int's bits are the stack, its first lowest -/
def rb (s : List Bool) (t : Int32) : Prop := ∀ k, k < 32 → bt t k = s.getD k false
theorem rb_0 : rb [] 0 := fun k _ => by rw [b_0]; rfl
theorem bt_bb {b : Bool} : ∀ k, k < 32 → bt (bb b) k = (decide (k = 0) && b) := by
  cases b
  · intro k _; show bt 0 k = _; rw [b_0, Bool.and_false]
  · intro k hk; show bt 1 k = _; rw [b_one k hk, Bool.and_true]
theorem rb_push {s : List Bool} {t : Int32} (b : Bool) (h : rb s t) : rb (b :: s) ((t <<< (1 &&& 31)) ||| bb b) := by
  intro k hk
  rw [b_or, show ((1 : Int32) &&& 31) = (nI 1 &&& 31) from rfl, b_shl 1 (by decide) t hk, bt_bb k hk]
  match k, hk with
  | 0, _ => rfl
  | k + 1, hk =>
    rw [Nat.add_sub_cancel, h k (by omega)]
    show (decide (1 ≤ k + 1) && s.getD k false || decide (k + 1 = 0) && b) = s.getD k false
    rw [decide_eq_true (by omega), decide_eq_false (by omega), Bool.true_and, Bool.false_and, Bool.or_false]
theorem rb_not {a : Bool} {s : List Bool} {t : Int32} (h : rb (a :: s) t) : rb ((!a) :: s) (t ^^^ 1) := by
  intro k hk
  rw [b_xor, b_one k hk, h k hk]
  match k with
  | 0 => show (a ^^ decide (0 = 0)) = !a; cases a <;> rfl
  | k + 1 => show (s.getD k false ^^ decide (k + 1 = 0)) = s.getD k false; rw [decide_eq_false (by omega), Bool.xor_false]
theorem bt_m2 : ∀ k, k < 32 → bt (-2) k = decide (k ≠ 0) := by decide +kernel
theorem getD_big {s : List Bool} {k : Nat} (h : s.length ≤ k) : s.getD k false = false := by
  rw [List.getD_eq_getElem?_getD, List.getElem?_eq_none h]; rfl
theorem rb_ush {a : Bool} {s : List Bool} {t : Int32} (h : rb (a :: s) t) (hl : s.length ≤ 31) : ∀ k, k < 32 → bt (ush t 1) k = s.getD k false := by
  intro k hk
  rw [show ush t 1 = ush t (nI 1) from rfl, b_ush 1 (by decide) t k]
  by_cases q : 1 + k < 32
  · rw [h (1 + k) q, show 1 + k = k + 1 by omega]; rfl
  · rw [b_big (by omega), getD_big (by omega)]
theorem rb_and {a b : Bool} {s : List Bool} {t : Int32} (h : rb (a :: b :: s) t) (hl : s.length ≤ 30) : rb ((b && a) :: s) (ush t 1 &&& (t ||| (-2))) := by
  intro k hk
  rw [b_and, b_or, rb_ush h (by rw [List.length_cons]; omega) k hk, h k hk, bt_m2 k hk]
  match k with
  | 0 => show (b && (a || decide ((0 : Nat) ≠ 0))) = (b && a); rw [decide_eq_false (by decide), Bool.or_false]
  | k + 1 => show (s.getD k false && (_ || decide (k + 1 ≠ 0))) = s.getD k false; rw [decide_eq_true (by omega), Bool.or_true, Bool.and_true]
theorem rb_or {a b : Bool} {s : List Bool} {t : Int32} (h : rb (a :: b :: s) t) (hl : s.length ≤ 30) : rb ((b || a) :: s) (ush t 1 ||| (t &&& 1)) := by
  intro k hk
  rw [b_or, b_and, rb_ush h (by rw [List.length_cons]; omega) k hk, h k hk, b_one k hk]
  match k with
  | 0 => show (b || (a && decide ((0 : Nat) = 0))) = (b || a); rw [decide_eq_true rfl, Bool.and_true]
  | k + 1 => show (s.getD k false || (_ && decide (k + 1 = 0))) = s.getD k false; rw [decide_eq_false (by omega), Bool.and_false, Bool.or_false]
theorem rb_low {b : Bool} {s : List Bool} {t : Int32} (h : rb (b :: s) t) : t &&& 1 = bb b := by
  refine b_ext (fun k hk => ?_)
  rw [b_and, b_one k hk, bt_bb k hk]
  by_cases q : k = 0
  · subst q; rw [h 0 hk]; show (b && decide (0 = 0)) = (decide (0 = 0) && b); rw [Bool.and_comm]
  · rw [decide_eq_false q, Bool.and_false, Bool.false_and]
theorem c_tok0 : ∀ n, n ≤ 99 → ∀ f, f ≤ 5 → ∀ r, r ≤ 2 → (((nI n <<< (3 &&& 31) ||| nI f) <<< (4 &&& 31)) ||| (4 + nI r)) &&& 15 = nI (4 + r) ∧ lo7 (opO (((nI n <<< (3 &&& 31) ||| nI f) <<< (4 &&& 31)) ||| (4 + nI r))) = f ∧ opO (((nI n <<< (3 &&& 31) ||| nI f) <<< (4 &&& 31)) ||| (4 + nI r)) >>> (3 &&& 31) = nI n := by decide +kernel
theorem c_add0 : ∀ k, k ≤ 99 → (((nI k <<< (4 &&& 31)) ||| 3) &&& 15 = 3 ∧ opO ((nI k <<< (4 &&& 31)) ||| 3) = nI k) ∧ (((-nI k) <<< (4 &&& 31)) ||| 3) &&& 15 = 3 ∧ opO (((-nI k) <<< (4 &&& 31)) ||| 3) = -nI k := by decide +kernel
theorem ccd_T {z : Tk} {f r n : Nat} (h0 : z.1 = 0) (ef : z.2.1 = nI f) (er : z.2.2.1 = nI r) (en : z.2.2.2 = nI n) : ccd z = ((nI n <<< (3 &&& 31) ||| nI f) <<< (4 &&& 31)) ||| (4 + nI r) := by
  unfold ccd; rw [ifc_t h0, ef, er, en]
theorem bof_ifc (P : Prop) : ifc P (1 : Int32) 0 = bb (bof P) := bq_bof P
theorem c_stp {fx : Int32 → Int32} {z : Tk} {s : List Bool} {w : Int32 × Int32} (hg : tkG z) (h : (z.1 = 1 → 1 ≤ s.length) ∧ (2 ≤ z.1 → 2 ≤ s.length)) (hl : s.length ≤ 32) (hs : rb s w.2) : (stpO (ccd z) (fun j => fx (nI j)) w).1 = w.1 ∧ rb (evs fx z s) (stpO (ccd z) (fun j => fx (nI j)) w).2 := by
  rcases hg with ⟨h0, f, r, n, hf, hr, hn, ef, er, en⟩ | e | e | e
  · obtain ⟨q1, q2, q3⟩ := c_tok0 n hn f hf r hr
    rw [ccd_T h0 ef er en]
    unfold evs; rw [if_pos h0]
    unfold stpO
    rw [q1, q2, q3]
    have n4 : ∀ a b : Nat, a < 100 → b < 100 → a ≠ b → ¬ nI a = nI b := fun a b ha hb hne q => hne ((nI_eq (by omega) (by omega)).mp q)
    rw [ifc_f (show ¬ nI (4 + r) = 0 from n4 (4 + r) 0 (by omega) (by decide) (by omega)), ifc_f (show ¬ nI (4 + r) = 1 from n4 (4 + r) 1 (by omega) (by decide) (by omega)), ifc_f (show ¬ nI (4 + r) = 2 from n4 (4 + r) 2 (by omega) (by decide) (by omega)), ifc_f (show ¬ nI (4 + r) = 3 from n4 (4 + r) 3 (by omega) (by decide) (by omega))]
    unfold tvB
    rw [ef, er, en]
    match r, hr with
    | 0, _ =>
      rw [ifc_t (P := nI (4 + 0) = 4) (by decide), ifc_t (P := nI 0 = 0) (by decide)]
      exact ⟨rfl, by rw [bof_ifc]; exact rb_push _ hs⟩
    | 1, _ =>
      rw [ifc_f (P := nI (4 + 1) = 4) (by decide), ifc_t (P := nI (4 + 1) = 5) (by decide), ifc_f (P := nI 1 = 0) (by decide), ifc_t (P := nI 1 = 1) (by decide)]
      exact ⟨rfl, by rw [bof_ifc]; exact rb_push _ hs⟩
    | 2, _ =>
      rw [ifc_f (P := nI (4 + 2) = 4) (by decide), ifc_f (P := nI (4 + 2) = 5) (by decide), ifc_f (P := nI 2 = 0) (by decide), ifc_f (P := nI 2 = 1) (by decide)]
      exact ⟨rfl, by rw [bof_ifc]; exact rb_push _ hs⟩
  · subst e
    rw [show ccd Tk_no = 0 by rw [← ccd_no]; decide]
    unfold stpO
    rw [ifc_t (by decide)]
    match s, h.1 rfl, hs with
    | a :: t, _, hs => exact ⟨rfl, rb_not hs⟩
  · subst e
    rw [show ccd Tk_an = 1 by rw [← ccd_an]; decide]
    unfold stpO
    rw [ifc_f (by decide), ifc_t (by decide)]
    match s, h.2 (by decide), hl, hs with
    | a :: b :: t, _, hl, hs => exact ⟨rfl, rb_and hs (by rw [List.length_cons, List.length_cons] at hl; omega)⟩
    | [a], q, _, _ => exact absurd q (show ¬ 2 ≤ 1 by decide)
  · subst e
    rw [show ccd Tk_eo = 2 by rw [← ccd_eo]; decide]
    unfold stpO
    rw [ifc_f (by decide), ifc_f (by decide), ifc_t (by decide)]
    match s, h.2 (by decide), hl, hs with
    | a :: b :: t, _, hl, hs => exact ⟨rfl, rb_or hs (by rw [List.length_cons, List.length_cons] at hl; omega)⟩
    | [a], q, _, _ => exact absurd q (show ¬ 2 ≤ 1 by decide)
theorem c_run {fx : Int32 → Int32} {st : Nat → Int32} : ∀ (o : List Tk) (i : Nat) (s : List Bool), atL st i (o.map ccd) → s.length + nt o ≤ 32 → okk o s.length → (∀ z, z ∈ o → tkG z) → rb s (olsS st (fun j => fx (nI j)) i).2 →
    (olsS st (fun j => fx (nI j)) (i + o.length)).1 = (olsS st (fun j => fx (nI j)) i).1 ∧ rb (evl fx o s) (olsS st (fun j => fx (nI j)) (i + o.length)).2
  | [], _, _, _, _, _, _, hs => ⟨rfl, hs⟩
  | z :: o, i, s, ha, hl, hk, hg, hs => by
    have hgz := hg z List.mem_cons_self
    have e1 := evs_len (fx := fx) hgz hk.1
    have hl2 : s.length + ((if z.1 = 0 then 1 else 0) + nt o) ≤ 32 := hl
    obtain ⟨a1, a2⟩ := c_stp (fx := fx) (w := olsS st (fun j => fx (nI j)) i) hgz hk.1 (by omega) hs
    have e2 : olsS st (fun j => fx (nI j)) (i + 1) = stpO (ccd z) (fun j => fx (nI j)) (olsS st (fun j => fx (nI j)) i) := by rw [olsS, ha.1]
    have hln : (evs fx z s).length + nt o ≤ 32 := by
      rw [e1]; unfold dk
      by_cases h0 : z.1 = 0
      · rw [if_pos h0] at hl2 ⊢; omega
      · rw [if_neg h0] at hl2 ⊢
        by_cases h1 : z.1 = 1
        · rw [if_pos h1]; omega
        · rw [if_neg h1]; omega
    obtain ⟨r1, r2⟩ := c_run o (i + 1) (evs fx z s) ha.2 hln (by rw [e1]; exact hk.2) (fun y hy => hg y (List.mem_cons_of_mem _ hy)) (by rw [e2]; exact a2)
    rw [show i + (z :: o).length = i + 1 + o.length by rw [List.length_cons]; omega]
    exact ⟨r1.trans (by rw [e2]; exact a1), r2⟩
/-- what a clause adds -/
noncomputable def cv (fx : Int32 → Int32) (c : Int32 × Int32 × List Tk) : Int32 := ifc (c.1 = 2) 0 (ifc (tru fx c.2.2 = true) (ifc (c.1 = 0) c.2.1 (-c.2.1)) 0)
noncomputable def tot (fx : Int32 → Int32) : ClL → Int32
  | [] => 0
  | c :: l => cv fx c + tot fx l
theorem c_adc {w k : Int32} {q : Nat} (hq : q ≤ 99) (e : k = nI q) : adc w k &&& 15 = 3 ∧ opO (adc w k) = ifc (w = 0) k (-k) := by
  obtain ⟨a, b⟩ := c_add0 q hq
  unfold adc
  by_cases h : w = 0
  · rw [ifc_t h, e]; exact a
  · rw [ifc_f h, e]; exact b
theorem c_clause {fx : Int32 → Int32} {st : Nat → Int32} {c : Int32 × Int32 × List Tk} {i : Nat} (hg : clG c) (ha : atL st i (stL c)) (hs : (olsS st (fun j => fx (nI j)) i).2 = 0) :
    (olsS st (fun j => fx (nI j)) (i + (stL c).length)).1 = (olsS st (fun j => fx (nI j)) i).1 + cv fx c ∧ (olsS st (fun j => fx (nI j)) (i + (stL c).length)).2 = 0 := by
  obtain ⟨⟨q, hq, eq⟩, hc⟩ := hg
  rcases hc with ⟨h2, _⟩ | ⟨hw, hwf, hn⟩
  · have e : stL c = [] := by unfold stL; rw [ifc_t h2]
    rw [e]; unfold cv; rw [ifc_t h2]
    exact ⟨(Int32.add_zero _).symm, hs⟩
  · have hn2 : ¬ c.1 = 2 := by rcases hw with e | e <;> rw [e] <;> decide
    have e : stL c = c.2.2.map ccd ++ [adc c.1 c.2.1] := by unfold stL; rw [ifc_f hn2]
    rw [e] at ha ⊢
    obtain ⟨a1, a2⟩ := (atL_app _ _ _).mp ha
    obtain ⟨r1, r2⟩ := c_run (fx := fx) c.2.2 i [] a1 (by show 0 + nt c.2.2 ≤ 32; omega) (hwf.1 0).1 hwf.2 (by rw [hs]; exact rb_0)
    rw [tru_e hwf] at r2
    rw [List.length_append, List.length_map, List.length_singleton, ← Nat.add_assoc]
    rw [List.length_map] at a2
    obtain ⟨b1, b2⟩ := c_adc (w := c.1) hq eq
    have e3 : olsS st (fun j => fx (nI j)) (i + c.2.2.length + 1) = ((olsS st (fun j => fx (nI j)) i).1 + bb (tru fx c.2.2) * ifc (c.1 = 0) c.2.1 (-c.2.1), 0) := by
      rw [olsS, a2.1]
      unfold stpO
      rw [b1, ifc_f (by decide), ifc_f (by decide), ifc_f (by decide), ifc_t rfl, rb_low r2, b2, r1]
    rw [e3]
    refine ⟨?_, rfl⟩
    show _ + _ = _ + cv fx c
    unfold cv
    rw [ifc_f hn2]
    cases tru fx c.2.2
    · rw [ifc_f (P := false = true) (by decide)]
      show _ + 0 * _ = _
      rw [Int32.zero_mul]
    · rw [ifc_t rfl]
      show _ + 1 * _ = _
      rw [Int32.one_mul]
theorem c_all {fx : Int32 → Int32} {st : Nat → Int32} : ∀ (l : ClL) (i : Nat), (∀ c, c ∈ l → clG c) → atL st i (stps l) → (olsS st (fun j => fx (nI j)) i).2 = 0 → (olsS st (fun j => fx (nI j)) (i + (stps l).length)).1 = (olsS st (fun j => fx (nI j)) i).1 + tot fx l
  | [], _, _, _, _ => (Int32.add_zero _).symm
  | c :: l, i, hg, ha, hs => by
    have ha : atL st i (stL c ++ stps l) := ha
    obtain ⟨a1, a2⟩ := (atL_app _ _ _).mp ha
    obtain ⟨r1, r2⟩ := c_clause (fx := fx) (hg c List.mem_cons_self) a1 hs
    have r3 := c_all l (i + (stL c).length) (fun y hy => hg y (List.mem_cons_of_mem _ hy)) a2 r2
    show (olsS st (fun j => fx (nI j)) (i + (stL c ++ stps l).length)).1 = _ + (cv fx c + tot fx l)
    rw [List.length_append, ← Nat.add_assoc, r3, r1, Int32.add_assoc]
theorem ns_tot {st : Nat → Int32} {l : ClL} (hg : ∀ c, c ∈ l → clG c) (ha : atL st 0 (stps l)) : nsC st (stps l).length = fun fx ga => ga + tot fx l := by
  funext fx ga
  unfold nsC
  have h := c_all (fx := fx) l 0 hg ha rfl
  rw [Nat.zero_add] at h
  rw [h]
  show ga + (0 + tot fx l) = _
  rw [Int32.zero_add]
/-- tests look at the six facts alone -/
theorem ok_tk {z : Tk} (hg : tkG z) : ¬ ccd z &&& 15 = 0 → ¬ ccd z &&& 15 = 1 → ¬ ccd z &&& 15 = 2 → lo7 (opO (ccd z)) ≤ 5 := by
  rcases hg with ⟨h0, f, r, n, hf, hr, hn, ef, er, en⟩ | e | e | e
  · intro _ _ _
    rw [ccd_T h0 ef er en, (c_tok0 n hn f hf r hr).2.1]; exact hf
  · subst e; rw [show ccd Tk_no = 0 by rw [← ccd_no]; decide]; exact fun q => absurd (by decide) q
  · subst e; rw [show ccd Tk_an = 1 by rw [← ccd_an]; decide]; exact fun _ q => absurd (by decide) q
  · subst e; rw [show ccd Tk_eo = 2 by rw [← ccd_eo]; decide]; exact fun _ _ q => absurd (by decide) q
def okX (x : Int32) : Prop := ¬ x &&& 15 = 0 → ¬ x &&& 15 = 1 → ¬ x &&& 15 = 2 → ¬ x &&& 15 = 3 → lo7 (opO x) ≤ 5
theorem okX_stL {c : Int32 × Int32 × List Tk} (hg : clG c) : ∀ x, x ∈ stL c → okX x := by
  obtain ⟨⟨q, hq, eq⟩, hc⟩ := hg
  unfold stL
  rcases hc with ⟨h2, _⟩ | ⟨hw, hwf, hn⟩
  · rw [ifc_t h2]; intro x hx; cases hx
  · rw [ifc_f (by rcases hw with e | e <;> rw [e] <;> decide)]
    intro x hx
    rcases List.mem_append.mp hx with h | h
    · obtain ⟨z, hz, rfl⟩ := List.mem_map.mp h
      exact fun a b c _ => ok_tk (hwf.2 z hz) a b c
    · rw [List.mem_singleton.mp h]
      exact fun _ _ _ d => absurd (c_adc hq eq).1 d
theorem okX_all : ∀ (l : ClL), (∀ c, c ∈ l → clG c) → ∀ x, x ∈ stps l → okX x
  | [], _, x, hx => by cases hx
  | c :: l, hg, x, hx => by
    rcases List.mem_append.mp (show x ∈ stL c ++ stps l from hx) with h | h
    · exact okX_stL (hg c List.mem_cons_self) x h
    · exact okX_all l (fun y hy => hg y (List.mem_cons_of_mem _ hy)) x h
theorem atL_mem {h : Nat → Int32} : ∀ (l : List Int32) (k i : Nat), atL h k l → i < l.length → h (k + i) ∈ l
  | [], _, _, _, hi => absurd hi (Nat.not_lt_zero _)
  | x :: l, k, 0, ha, _ => by rw [Nat.add_zero, ha.1]; exact List.mem_cons_self
  | x :: l, k, i + 1, ha, hi => by
    have := atL_mem l (k + 1) i ha.2 (by rw [List.length_cons] at hi; omega)
    rw [show k + (i + 1) = k + 1 + i by omega]
    exact List.mem_cons_of_mem _ this
theorem okSt_of {st : Nat → Int32} {l : ClL} (hg : ∀ c, c ∈ l → clG c) (ha : atL st 0 (stps l)) : okSt st (stps l).length := by
  intro i hi
  have h := atL_mem (stps l) 0 i ha hi
  rw [Nat.zero_add] at h
  exact okX_all l hg _ h
