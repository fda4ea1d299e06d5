section
variable {g : Gl} {I : Ty} {L : TL} {R : TR} {N : TN} {n : Nat}
theorem wr_at {I : Ty} {k j : Nat} {x : Int32} : wr I k j x k j = x := (congrFun (up_at I k _) j).trans (up_at _ _ _)
/-- one tape changes, the rest stands -/
theorem jT_upd {F I : Ty} {L L2 : TL} {t : Nat} (h : jT I L) (a1 : ∀ s, s < 6 → s ≠ t → F 112 s = I 112 s ∧ F 113 s = I 113 s ∧ F (53 + 2 * s) 0 = I (53 + 2 * s) 0 ∧ F (53 + 2 * s) 1 = I (53 + 2 * s) 1 ∧ ∀ i, i < 60 → L2 114 (60 * s + i) = L 114 (60 * s + i) ∧ L2 (54 + 2 * s) i = L (54 + 2 * s) i)
    (a2 : t < 6 → F 112 t = F (53 + 2 * t) 0 ∧ F 113 t = F (53 + 2 * t) 1 ∧ (-1 ≤ F 112 t ∧ F 112 t ≤ 4) ∧ (∃ ln, ln ≤ 60 ∧ F 113 t = nI ln ∧ (F 112 t < 0 → ln = 0)) ∧ ∀ i, i < 60 → L2 114 (60 * t + i) = L2 (54 + 2 * t) i) : jT F L2 := by
  intro s hs
  by_cases e : s = t
  · subst e; exact a2 hs
  · obtain ⟨b1, b2, b3, b4, b5⟩ := a1 s hs e
    obtain ⟨c1, c2, c3, c4, c5⟩ := h s hs
    rw [b1, b2, b3, b4]
    exact ⟨c1, c2, c3, c4, fun i hi => by rw [(b5 i hi).1, (b5 i hi).2]; exact c5 i hi⟩
theorem lz_114 (L : TL) (b : Nat) : ∀ k x, lz L b k 114 x = if b ≤ x ∧ x < b + k then 0 else L 114 x
  | 0, x => by rw [if_neg (by omega)]; rfl
  | k + 1, x => by
    rw [lz, up_at]
    by_cases e : x = b + k
    · rw [e, up_at, if_pos (by omega)]
    · rw [up_off _ _ e, lz_114 L b k x]
      by_cases q : b ≤ x ∧ x < b + k
      · rw [if_pos q, if_pos (by omega)]
      · rw [if_neg q, if_neg (by omega)]
theorem lz_off (L : TL) (b : Nat) {a : Nat} (h : a ≠ 114) : ∀ k, lz L b k a = L a
  | 0 => rfl
  | k + 1 => by rw [lz, up_off _ _ h, lz_off L b h k]
theorem lzc_at (L : TL) (b : Nat) : ∀ k x, lzc L b k b x = if x < k then 0 else L b x
  | 0, x => by rw [if_neg (by omega)]; rfl
  | k + 1, x => by
    rw [lzc, up_at]
    by_cases e : x = k
    · rw [e, up_at, if_pos (by omega)]
    · rw [up_off _ _ e, lzc_at L b k x]
      by_cases q : x < k
      · rw [if_pos q, if_pos (by omega)]
      · rw [if_neg q, if_neg (by omega)]
theorem lzc_off (L : TL) (b : Nat) {a : Nat} (h : a ≠ b) : ∀ k, lzc L b k a = L a
  | 0 => rfl
  | k + 1 => by rw [lzc, up_off _ _ h, lzc_off L b h k]
theorem JJ_T {F I : Ty} {L L2 : TL} {nl : Nat → Nat} {na ni c pp hh t : Nat} {x y : Int32} {kp : Ty} (ht : t < 6) (hF : F = wr (wr (scC (wr (wr I (53 + 2 * t) 0 x) (53 + 2 * t) 1 y) kp) 112 t x) 113 t y) (hT : jT F L2) (hJ : JJ I L nl na ni c pp hh) : JJ F L2 nl na ni c pp hh := by
  subst hF
  obtain ⟨h1, h2, h3, h4, h5, h6, h7, h8, h9⟩ := hJ
  have hi : hiE (wr (wr (scC (wr (wr I (53 + 2 * t) 0 x) (53 + 2 * t) 1 y) kp) 112 t x) 113 t y) I := hi_up (by decide) (hi_up (by decide) (hi_scC (hi_up (by omega) (hi_up (by omega) (hi_0 I)))))
  have h6c : t = 0 ∨ t = 1 ∨ t = 2 ∨ t = 3 ∨ t = 4 ∨ t = 5 := by omega
  rcases h6c with e | e | e | e | e | e <;> subst e <;> exact ⟨jN_keep (I := I) rfl rfl rfl rfl rfl rfl rfl rfl rfl rfl hi h1, h2, h3, h4, h5, h6, h7, hT, h9⟩
theorem s_tape (h : JX I L R N n) (tz sz nz : Int32) : StpI g yX8_tape cX8_tape 4 1 0 0 yX9_tape cX9_tape 5 3 [.int tz, .int sz, .int nz] I L R N n := by
  obtain ⟨na, nt, ni, c, nl, pp, hh, rfl, rfl, rfl, hJ⟩ := h
  by_cases q : tapeW tz sz nz
  · refine ms (c_X8_tape tz sz nz) (fun kp nt' => ⟨_, _, _, rfl, c_X9_tape (I := scC _ kp) tz sz nz, pp, hh, ?_⟩)
    rw [ifc_t q, ifc_t q, ifc_t q, ifc_t q]
    obtain ⟨q1, ⟨q2, q3⟩, q4⟩ := q
    have ht := inr_lt q1
    generalize tn tz = t at ht ⊢
    have hT : jT I L := hJ.2.2.2.2.2.2.2.1
    have o1 : ∀ {kp : Ty} {a : Nat}, 43 ≤ a → scC (wr (wr I (53 + 2 * t) 0 sz) (53 + 2 * t) 1 (ifc (sz < 0) 0 nz)) kp a = wr (wr I (53 + 2 * t) 0 sz) (53 + 2 * t) 1 (ifc (sz < 0) 0 nz) a := fun ha => by unfold scC; rw [if_neg (by omega)]
    have f1 : wr (wr (scC (wr (wr I (53 + 2 * t) 0 sz) (53 + 2 * t) 1 (ifc (sz < 0) 0 nz)) kp) 112 t sz) 113 t (ifc (sz < 0) 0 nz) 112 t = sz := (congrFun (wr_o (by decide)) t).trans wr_at
    have f2 : wr (wr (scC (wr (wr I (53 + 2 * t) 0 sz) (53 + 2 * t) 1 (ifc (sz < 0) 0 nz)) kp) 112 t sz) 113 t (ifc (sz < 0) 0 nz) 113 t = ifc (sz < 0) 0 nz := wr_at
    have f3 : wr (wr (scC (wr (wr I (53 + 2 * t) 0 sz) (53 + 2 * t) 1 (ifc (sz < 0) 0 nz)) kp) 112 t sz) 113 t (ifc (sz < 0) 0 nz) (53 + 2 * t) 0 = sz := by
      rw [wr_o (a := 53 + 2 * t) (k := 113) (by omega), wr_o (a := 53 + 2 * t) (k := 112) (by omega), o1 (by omega)]
      exact (wr_i (by decide)).trans wr_at
    have f4 : wr (wr (scC (wr (wr I (53 + 2 * t) 0 sz) (53 + 2 * t) 1 (ifc (sz < 0) 0 nz)) kp) 112 t sz) 113 t (ifc (sz < 0) 0 nz) (53 + 2 * t) 1 = ifc (sz < 0) 0 nz := by
      rw [wr_o (a := 53 + 2 * t) (k := 113) (by omega), wr_o (a := 53 + 2 * t) (k := 112) (by omega), o1 (by omega)]
      exact wr_at
    refine JJ_T ht rfl (jT_upd (t := t) hT (fun s hs hst => ⟨?_, ?_, ?_, ?_, fun i hi => ⟨?_, ?_⟩⟩) (fun _ => ⟨?_, ?_, ?_, ?_, fun i hi => ?_⟩)) hJ
    · rw [wr_o (by decide)]
      refine (wr_i hst).trans ?_
      rw [o1 (by decide), wr_o (by omega), wr_o (by omega)]
    · refine (wr_i hst).trans ?_
      rw [wr_o (by decide), o1 (by decide), wr_o (by omega), wr_o (by omega)]
    · rw [wr_o (by omega), wr_o (by omega), o1 (by omega), wr_o (by omega), wr_o (by omega)]
    · rw [wr_o (by omega), wr_o (by omega), o1 (by omega), wr_o (by omega), wr_o (by omega)]
    · rw [lz_114, if_neg (by omega), lzc_off _ _ (by omega)]
    · rw [lz_off _ _ (by omega), lzc_off _ _ (by omega)]
    · rw [f1, f3]
    · rw [f2, f4]
    · rw [f1]; exact q2
    · rw [f1, f2]
      by_cases hn : sz < 0
      · rw [ifc_t hn]; exact ⟨0, by decide, rfl, fun _ => rfl⟩
      · rw [ifc_f hn]
        have q4 := Int32.le_iff_toInt_le.mp (q4.resolve_left hn)
        have q3 := Int32.le_iff_toInt_le.mp (q3.resolve_left hn)
        rw [show ((0 : Int32)).toInt = 0 from rfl] at q4
        rw [show ((60 : Int32)).toInt = 60 from rfl] at q3
        have := tn_int q4
        exact ⟨tn nz, by omega, nI_tn q4, fun w => absurd w hn⟩
    · rw [lz_114, if_pos (by omega), lz_off _ _ (by omega), lzc_at, if_pos hi]
  · refine ms (c_X8_tape tz sz nz) (fun kp nt' => ⟨_, _, _, rfl, c_X9_tape (I := scC _ kp) tz sz nz, pp, hh, ?_⟩)
    rw [ifc_f q, ifc_f q, ifc_f q, ifc_f q]; exact JJ_scC kp hJ
theorem JJ_L {I : Ty} {L L2 : TL} {nl : Nat → Nat} {na ni c pp hh : Nat} (hT : jT I L2) (hJ : JJ I L nl na ni c pp hh) : JJ I L2 nl na ni c pp hh := by
  obtain ⟨h1, h2, h3, h4, h5, h6, h7, h8, h9⟩ := hJ
  exact ⟨h1, h2, h3, h4, h5, h6, h7, hT, h9⟩
theorem cut_nar {sz : Int32} {z : Int64} (h0 : ¬ sz < 0) (h4 : sz ≤ 4) : narF sz z = cutF sz z := by
  have a := nlt0 h0
  have b := Int32.le_iff_toInt_le.mp h4
  rw [show ((4 : Int32)).toInt = 4 from rfl] at b
  have e : sz = nI (tn sz) := nI_tn a
  have c := tn_int a
  have hl : tn sz = 0 ∨ tn sz = 1 ∨ tn sz = 2 ∨ tn sz = 3 ∨ tn sz = 4 := by omega
  unfold narF cutF
  rcases hl with w | w | w | w | w <;> rw [w] at e <;> rw [e]
  · rw [ifc_t (P := nI 0 = 0) rfl, ifc_t (P := nI 0 = 0) rfl]
  · rw [ifc_f (P := nI 1 = 0) (by decide), ifc_f (P := nI 1 = 0) (by decide), ifc_t (P := nI 1 = 1) rfl, ifc_t (P := nI 1 = 1) rfl]
  · rw [ifc_f (P := nI 2 = 0) (by decide), ifc_f (P := nI 2 = 0) (by decide), ifc_f (P := nI 2 = 1) (by decide), ifc_f (P := nI 2 = 1) (by decide), ifc_t (P := nI 2 = 2) rfl, ifc_t (P := nI 2 = 2) rfl]
  · rw [ifc_f (P := nI 3 = 0) (by decide), ifc_f (P := nI 3 = 0) (by decide), ifc_f (P := nI 3 = 1) (by decide), ifc_f (P := nI 3 = 1) (by decide), ifc_f (P := nI 3 = 2) (by decide), ifc_f (P := nI 3 = 2) (by decide), ifc_f (P := nI 3 = 4) (by decide), ifc_t (P := nI 3 = 3) rfl]
  · rw [ifc_f (P := nI 4 = 0) (by decide), ifc_f (P := nI 4 = 0) (by decide), ifc_f (P := nI 4 = 1) (by decide), ifc_f (P := nI 4 = 1) (by decide), ifc_f (P := nI 4 = 2) (by decide), ifc_f (P := nI 4 = 2) (by decide), ifc_t (P := nI 4 = 4) rfl, ifc_f (P := nI 4 = 3) (by decide)]
theorem s_item (h : JX I L R N n) (tz iz : Int32) (zz : Int64) : StpI g yX8_item cX8_item 6 1 0 0 yX9_item cX9_item 5 3 [.int tz, .int iz, .long zz] I L R N n := by
  obtain ⟨na, nt, ni, c, nl, pp, hh, rfl, rfl, rfl, hJ⟩ := h
  have hT : jT I L := hJ.2.2.2.2.2.2.2.1
  by_cases q : inr tz 6 ∧ ¬ I (53 + 2 * tn tz) 0 < 0 ∧ inr iz (tn (I (53 + 2 * tn tz) 1))
  · obtain ⟨e1, e2, e3, ⟨ln, hl, e4, e5⟩, e6⟩ := hT (tn tz) (inr_lt q.1)
    have qm : inr tz 6 ∧ ¬ I 112 (tn tz) < 0 ∧ inr iz (tn (I 113 (tn tz))) := by rw [e1, e2]; exact q
    refine ms (c_X8_item tz iz zz (jT_C hT)) (fun kp nt' => ⟨_, _, _, ?_, c_X9_item (I := scC _ kp) tz iz zz (jT_O (I := scC I kp) (L := L) (JJ_scC kp hJ).2.2.2.2.2.2.2.1), pp, hh, ?_⟩)
    · show ifc _ (ifc (I 112 (tn tz) < 0) _ (ifc (inr iz (tn (I 113 (tn tz)))) _ _)) _ = _
      rw [e1, e2]
    · rw [ifc_t q, ifc_t (P := inr tz 6 ∧ ¬ scC I kp 112 (tn tz) < 0 ∧ inr iz (tn (scC I kp 113 (tn tz)))) qm]
      refine JJ_L ?_ (JJ_scC kp hJ)
      have hTm : jT (scC I kp) L := (JJ_scC kp hJ).2.2.2.2.2.2.2.1
      have hlt := inr_lt q.1
      have hil := inr_lt q.2.2
      rw [← e2, e4, tn_nI (by omega)] at hil
      have hcn : narF (scC I kp 112 (tn tz)) zz = cutF (I (53 + 2 * tn tz) 0) zz := (cut_nar (sz := I 112 (tn tz)) qm.2.1 e3.2).trans (by rw [e1])
      rw [hcn]
      generalize tn tz = t at *
      generalize tn iz = k at *
      refine jT_upd (t := t) hTm (fun s hs hst => ⟨rfl, rfl, rfl, rfl, fun i hi => ⟨?_, ?_⟩⟩) (fun _ => ?_)
      · rw [up_at, up_off _ _ (by omega), up_off _ _ (by omega)]
      · rw [up_off _ _ (by omega), up_off _ _ (by omega)]
      · obtain ⟨f1, f2, f3, f4, f5⟩ := hTm t hlt
        refine ⟨f1, f2, f3, f4, fun i hi => ?_⟩
        rw [up_at, up_off _ _ (show 54 + 2 * t ≠ 114 by omega), up_at, up_off _ _ (show (114 : Nat) ≠ 54 + 2 * t by omega)]
        by_cases e : i = k
        · rw [e, up_at, up_at]
        · rw [up_off _ _ (by omega), up_off _ _ e]; exact e6 i hi
  · refine ms (c_X8_item tz iz zz (jT_C hT)) (fun kp nt' => ⟨_, _, _, ?_, c_X9_item (I := scC _ kp) tz iz zz (jT_O (I := scC I kp) (L := L) ?_), pp, hh, ?_⟩)
    · show ifc _ (ifc (I 112 (tn tz) < 0) _ (ifc (inr iz (tn (I 113 (tn tz)))) _ _)) _ = _
      refine ifc_cg (fun q1 => ?_) (fun _ => rfl)
      obtain ⟨e1, e2, _⟩ := hT (tn tz) (inr_lt q1)
      rw [e1, e2]
    · exact (JJ_scC kp hJ).2.2.2.2.2.2.2.1
    · rw [ifc_f q, ifc_f (P := inr tz 6 ∧ ¬ scC I kp 112 (tn tz) < 0 ∧ inr iz (tn (scC I kp 113 (tn tz)))) (fun w => q ⟨w.1, by
        obtain ⟨e1, e2, _⟩ := hT (tn tz) (inr_lt w.1)
        rw [← e1, ← e2]; exact w.2⟩)]
      exact JJ_scC kp hJ
end
