section
variable {g : Gl} {I : Ty} {L : TL} {R : TR} {N : TN} {n : Nat}
theorem shA_115 (L : TL) (b : Nat) : ∀ k x, shA L b k 115 x = if x < k then L 114 (b + x) else L 115 x
  | 0, x => by rw [if_neg (by omega)]; rfl
  | k + 1, x => by
    have e114 : ∀ m, shA L b m 114 = L 114 := fun m => by
      induction m with
      | zero => rfl
      | succ m ih => rw [shA, up_off _ _ (by decide)]; exact ih
    rw [shA, up_at]
    by_cases e : x = k
    · rw [e, up_at, if_pos (by omega), e114]
    · rw [up_off _ _ e, shA_115 L b k x]
      by_cases q : x < k
      · rw [if_pos q, if_pos (by omega)]
      · rw [if_neg q, if_neg (by omega)]
theorem shA_off (L : TL) (b : Nat) {a : Nat} (h : a ≠ 115) : ∀ k, shA L b k a = L a
  | 0 => rfl
  | k + 1 => by rw [shA, up_off _ _ h, shA_off L b h k]
theorem shB_off (L : TL) (b : Nat) {a : Nat} (h : a ≠ 114) : ∀ k, shB L b k a = L a
  | 0 => rfl
  | k + 1 => by rw [shB, up_off _ _ h, shB_off L b h k]
theorem shB_114 (L : TL) (b : Nat) : ∀ k x, shB L b k 114 x = if b ≤ x ∧ x < b + k then L 115 (x - b) else L 114 x
  | 0, x => by rw [if_neg (by omega)]; rfl
  | k + 1, x => by
    rw [shB, up_at, shB_off L b (a := 115) (by decide) k]
    by_cases e : x = b + k
    · rw [e, up_at, if_pos (by omega), show b + k - b = k by omega]
    · rw [up_off _ _ e, shB_114 L b k x]
      by_cases q : b ≤ x ∧ x < b + k
      · rw [if_pos q, if_pos (by omega)]
      · rw [if_neg q, if_neg (by omega)]
theorem sh_all (L : TL) (a b n : Nat) (x : Nat) : shB (shA L a n) b n 114 x = if b ≤ x ∧ x < b + n then L 114 (a + (x - b)) else L 114 x := by
  rw [shB_114, shA_115, shA_off _ _ (by decide)]
  by_cases q : b ≤ x ∧ x < b + n
  · rw [if_pos q, if_pos q, if_pos (by omega)]
  · rw [if_neg q, if_neg q]
theorem s_shift (h : JX I L R N n) (tz iz oz jz nz : Int32) : StpI g yX8_shift cX8_shift 8 1 0 0 yX9_shift cX9_shift 7 3 [.int tz, .int iz, .int oz, .int jz, .int nz] I L R N n := by
  obtain ⟨na, nt, ni, c, nl, pp, hh, rfl, rfl, rfl, hJ⟩ := h
  have hT : jT I L := hJ.2.2.2.2.2.2.2.1
  have hiff : shW I tz iz oz jz nz ↔ ((inr tz 6 ∧ inr oz 6) ∧ ¬ (I (53 + 2 * tn tz) 0 < 0 ∨ I (53 + 2 * tn oz) 0 < 0) ∧ I (53 + 2 * tn tz) 0 = I (53 + 2 * tn oz) 0 ∧ shC (tn (I (53 + 2 * tn tz) 1)) iz nz ∧ shC (tn (I (53 + 2 * tn oz) 1)) jz nz) := by
    unfold shW
    constructor
    · rintro ⟨q1, q2⟩
      obtain ⟨e1, e2, _⟩ := hT _ (inr_lt q1.1)
      obtain ⟨f1, f2, _⟩ := hT _ (inr_lt q1.2)
      rw [← e1, ← e2, ← f1, ← f2]; exact ⟨q1, q2⟩
    · rintro ⟨q1, q2⟩
      obtain ⟨e1, e2, _⟩ := hT _ (inr_lt q1.1)
      obtain ⟨f1, f2, _⟩ := hT _ (inr_lt q1.2)
      rw [e1, e2, f1, f2]; exact ⟨q1, q2⟩
  have hv : ifc (inr tz 6 ∧ inr oz 6) (ifc (I 112 (tn tz) < 0 ∨ I 112 (tn oz) < 0) (-11) (ifc (I 112 (tn tz) = I 112 (tn oz)) (ifc (shC (tn (I 113 (tn tz))) iz nz ∧ shC (tn (I 113 (tn oz))) jz nz) nz (-13)) (-12))) (-1) = ifc (inr tz 6 ∧ inr oz 6) (ifc (I (53 + 2 * tn tz) 0 < 0 ∨ I (53 + 2 * tn oz) 0 < 0) (-11) (ifc (I (53 + 2 * tn tz) 0 = I (53 + 2 * tn oz) 0) (ifc (shC (tn (I (53 + 2 * tn tz) 1)) iz nz ∧ shC (tn (I (53 + 2 * tn oz) 1)) jz nz) nz (-13)) (-12))) (-1) := by
    refine ifc_cg (fun q1 => ?_) (fun _ => rfl)
    obtain ⟨e1, e2, _⟩ := hT _ (inr_lt q1.1)
    obtain ⟨f1, f2, _⟩ := hT _ (inr_lt q1.2)
    rw [e1, e2, f1, f2]
  by_cases q : (inr tz 6 ∧ inr oz 6) ∧ ¬ (I (53 + 2 * tn tz) 0 < 0 ∨ I (53 + 2 * tn oz) 0 < 0) ∧ I (53 + 2 * tn tz) 0 = I (53 + 2 * tn oz) 0 ∧ shC (tn (I (53 + 2 * tn tz) 1)) iz nz ∧ shC (tn (I (53 + 2 * tn oz) 1)) jz nz
  · refine ms (c_X8_shift tz iz oz jz nz (jT_C hT)) (fun kp nt' => ⟨_, _, _, hv, c_X9_shift (I := scC I kp) tz iz oz jz nz (jT_O (I := scC I kp) (L := L) (JJ_scC kp hJ).2.2.2.2.2.2.2.1), pp, hh, ?_⟩)
    rw [ifc_t q, ifc_t (P := shW (scC I kp) tz iz oz jz nz) (hiff.mpr q)]
    refine JJ_L ?_ (JJ_scC kp hJ)
    have hTm : jT (scC I kp) L := (JJ_scC kp hJ).2.2.2.2.2.2.2.1
    obtain ⟨⟨q1, q2⟩, _, _, ⟨_, _, q5⟩, ⟨_, _, q6⟩⟩ := q
    have ht := inr_lt q1
    have ho := inr_lt q2
    obtain ⟨_, e2, _, ⟨ln, hl, e4, _⟩, e6⟩ := hT (tn tz) ht
    obtain ⟨_, f2, _, ⟨lo, hlo, f4, _⟩, f6⟩ := hT (tn oz) ho
    rw [← e2, e4, tn_nI (by omega)] at q5
    rw [← f2, f4, tn_nI (by omega)] at q6
    generalize tn tz = t at *
    generalize tn oz = o at *
    generalize tn iz = i at *
    generalize tn jz = j at *
    generalize tn nz = m at *
    refine jT_upd (t := o) hTm (fun s hs hst => ⟨rfl, rfl, rfl, rfl, fun y hy => ⟨?_, ?_⟩⟩) (fun _ => ?_)
    · rw [sh_all, if_neg (by omega), up_off _ _ (by omega)]
    · rw [shB_off _ _ (by omega), shA_off _ _ (by omega), up_off _ _ (by omega)]
    · obtain ⟨g1, g2, g3, g4, g5⟩ := hTm o ho
      refine ⟨g1, g2, g3, g4, fun y hy => ?_⟩
      rw [sh_all, shB_off _ _ (show 54 + 2 * o ≠ 114 by omega), shA_off _ _ (show 54 + 2 * o ≠ 115 by omega), up_at, up_off _ _ (show (114 : Nat) ≠ 54 + 2 * o by omega)]
      unfold va_cpy
      by_cases w : j ≤ y ∧ y < j + m
      · rw [if_pos w, if_pos (by omega), show 60 * t + i + (60 * o + y - (60 * o + j)) = 60 * t + (i + (y - j)) by omega]
        exact e6 _ (by omega)
      · rw [if_neg w, if_neg (by omega)]
        exact f6 y hy
  · refine ms (c_X8_shift tz iz oz jz nz (jT_C hT)) (fun kp nt' => ⟨_, _, _, hv, c_X9_shift (I := scC I kp) tz iz oz jz nz (jT_O (I := scC I kp) (L := L) ?_), pp, hh, ?_⟩)
    · exact (JJ_scC kp hJ).2.2.2.2.2.2.2.1
    · rw [ifc_f q, ifc_f (P := shW (scC I kp) tz iz oz jz nz) (fun w => q (hiff.mp w))]; exact JJ_scC kp hJ
end
