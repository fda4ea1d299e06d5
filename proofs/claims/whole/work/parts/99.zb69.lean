section
variable {g : Gl} {I : Ty} {L : TL} {R : TR} {N : TN} {n : Nat}
theorem pln_ok {pp : Nat} (hpp : pp ≤ 6) {wz nz : Int32} (h : plnC pp wz nz) : plnOK pp (tn wz) nz := by
  rcases h with e | ⟨e, h⟩ | ⟨e, h1, h2⟩
  · subst e; exact Or.inl rfl
  · have hq := inr_lt h
    refine Or.inr ⟨tn nz, inr_nI h, by omega, ?_⟩
    rcases e with e | e <;> subst e
    · exact Or.inl ⟨rfl, hq⟩
    · exact Or.inr (Or.inr ⟨rfl, hq⟩)
  · subst e
    have hn : ¬ nz < 0 := fun q => neg_two q ⟨h1, h2⟩
    obtain ⟨e, hl⟩ := nn_nI hn
    refine Or.inr ⟨tn nz, e, hl, Or.inr (Or.inl ⟨rfl, ?_⟩)⟩
    generalize tn nz = q at e hl
    subst e
    rw [show nI q - nI q / 10 * 10 = nI (q % 10) from pk_rem hl (by decide) (by decide), inr_of_nI (by omega)] at h2
    rw [show nI q / 10 = nI (q / 10) from pk_div hl (by decide) (by decide), inr_of_nI (by omega)] at h1
    exact ⟨h1, h2⟩
theorem s_plan (h : JX I L R N n) (wz nz : Int32) : StpI g yX8_plan cX8_plan 3 2 0 0 yX9_plan cX9_plan 3 3 [.int wz, .int nz] I L R N n := by
  obtain ⟨na, nt, ni, c, nl, pp, hh, rfl, rfl, rfl, hJ⟩ := h
  obtain ⟨hpp, hpe, _⟩ := JJ_8 hJ
  obtain ⟨sn, hsn, hs0, hs1, hk⟩ := hJ.2.2.2.1.2.1
  have hpi := plan_iff hpp wz nz
  refine ms (c_X8_plan wz nz pp hpp hpe sn hsn hs0 hJ.2.2.2.2.1.2.1) (fun kp nt' => ⟨_, _, _, ifc_cg (fun _ => rfl) (fun _ => ifc_c2 hpi (fun _ => rfl) (fun _ => rfl)), c_X9_plan (I := scC _ kp) wz nz pp hpp ?_ sn hsn ?_, pp, hh, ?_⟩)
  · by_cases q0 : wz = -1
    · rw [ifc_t q0]; exact hJ.2.1.2.2.2.1
    rw [ifc_f q0]
    by_cases q : plnC pp wz nz ∧ sn ≠ 8
    · rw [ifc_t q]; exact hJ.2.1.2.2.2.1
    · rw [ifc_f q]; exact hJ.2.1.2.2.2.1
  · by_cases q0 : wz = -1
    · rw [ifc_t q0]; exact hs1
    rw [ifc_f q0]
    by_cases q : plnC pp wz nz ∧ sn ≠ 8
    · rw [ifc_t q]; exact hs1
    · rw [ifc_f q]; exact hs1
  · by_cases q0 : wz = -1
    · rw [ifc_t q0, ifc_t q0]
      obtain ⟨h1, h2, h3, ⟨k1, k2, k3⟩, h5, h6, h7, h8, h9⟩ := hJ
      have w : jS pp (I 2 0) (I 65 35) (I 3) (I 89) (I 90) (I 91) ∧ jP pp 0 0 (I 5) (I 92) (I 93) ∧ jB pp (I 6 0) (I 65 40) (I 7) (I 94) (I 95) := ⟨k1, ⟨0, by decide, rfl, rfl, fun k hk => absurd hk (Nat.not_lt_zero k)⟩, k3⟩
      exact ⟨jN_keep (I := I) rfl rfl rfl rfl rfl rfl rfl rfl rfl rfl (hi_up (by decide) (hi_scC (hi_up (by decide) (hi_0 I)))) h1, h2, h3, w, h5, h6, h7, jT_keep (I := I) (L := L) rfl rfl (tp_cases ⟨rfl, rfl, rfl, rfl, rfl, rfl⟩) rfl h8, h9⟩
    rw [ifc_f q0, ifc_f q0]
    by_cases q : plnC pp wz nz ∧ sn ≠ 8
    · have hP := hpi.mpr q.1
      rw [ifc_t q, ifc_t (P := planC pp wz nz ∧ sn ≠ 8) ⟨hP, q.2⟩]
      obtain ⟨h1, h2, h3, ⟨k1, k2, k3⟩, h5, h6, h7, h8, h9⟩ := hJ
      by_cases c0 : 0 < tn wz
      · rw [ifc_t c0]
        have w1 := jP_app (w := tn wz) (cn := nI (sn + 1)) (ct := nI (sn + 1)) (y := nz) (y2 := nz) (by have := q.2; omega) hk (inr_lt hP.1) (inr_nI hP.1) (pln_ok hpp q.1) (by rw [if_neg (by omega)]) rfl rfl
        have w : jS pp (I 2 0) (I 65 35) (I 3) (I 89) (I 90) (I 91) ∧ _ ∧ jB pp (I 6 0) (I 65 40) (I 7) (I 94) (I 95) := ⟨k1, w1, k3⟩
        exact ⟨jN_keep (I := I) rfl rfl rfl rfl rfl rfl rfl rfl rfl rfl (hi_up (by decide) (hi_up (by decide) (hi_up (by decide) (hi_scC (hi_up (by decide) (hi_up (by decide) (hi_up (by decide) (hi_up (by decide) (hi_0 I))))))))) h1, h2, h3, w, h5, h6, h7, jT_keep (I := I) (L := L) rfl rfl (tp_cases ⟨rfl, rfl, rfl, rfl, rfl, rfl⟩) rfl h8, h9⟩
      · rw [ifc_f c0]
        have w1 := jP_app (w := tn wz) (cn := nI (sn + 1)) (ct := nI (sn + 1)) (y := nz) (y2 := 0) (by have := q.2; omega) hk (inr_lt hP.1) (inr_nI hP.1) (pln_ok hpp q.1) (by rw [if_pos (by omega)]) rfl rfl
        have w : jS pp (I 2 0) (I 65 35) (I 3) (I 89) (I 90) (I 91) ∧ _ ∧ jB pp (I 6 0) (I 65 40) (I 7) (I 94) (I 95) := ⟨k1, w1, k3⟩
        exact ⟨jN_keep (I := I) rfl rfl rfl rfl rfl rfl rfl rfl rfl rfl (hi_up (by decide) (hi_up (by decide) (hi_up (by decide) (hi_scC (hi_up (by decide) (hi_up (by decide) (hi_up (by decide) (hi_up (by decide) (hi_0 I))))))))) h1, h2, h3, w, h5, h6, h7, jT_keep (I := I) (L := L) rfl rfl (tp_cases ⟨rfl, rfl, rfl, rfl, rfl, rfl⟩) rfl h8, h9⟩
    · rw [ifc_f q, ifc_f (P := planC pp wz nz ∧ sn ≠ 8) (fun w => q ⟨hpi.mp w.1, w.2⟩)]; exact JJ_scC kp hJ
theorem cpn_all {m : Nat} {f f2 : Nat → Int32} (h : oz m f) (h2 : oz m f2) : cpn f f2 m = f := by
  funext j
  unfold cpn
  by_cases q : j < m
  · rw [if_pos q]
  · rw [if_neg q, h j (by omega), h2 j (by omega)]
theorem hi_cpB {I' I : Ty} {d s w k : Nat} (h1 : d + w ≤ 116) (h : hiE I' I) : hiE (cpB I' d s w k) I := fun a q => by
  unfold cpB; rw [if_neg (by omega)]; exact h a q
theorem hi_cpL {I' I : Ty} {d s : Nat} (h1 : d + 8 < 116) (h : hiE I' I) : hiE (cpL I' d s) I := fun a q => by
  unfold cpL
  rw [if_neg (by omega), if_neg (by omega), if_neg (by omega), if_neg (by omega), if_neg (by omega), if_neg (by omega), if_neg (by omega), if_neg (by omega), if_neg (by omega)]
  exact h a q
theorem hi_cpR {I' I : Ty} {d s : Nat} (h1 : d + 1 < 116) (h : hiE I' I) : hiE (cpR I' d s) I := hi_up (by omega) (hi_up (by omega) h)
theorem jS_cp {pp : Nat} {cn ct : Int32} {r a b c a2 b2 c2 : Nat → Int32} (h : jS pp cn ct r a b c) : jS pp cn ct r (cpn a a2 5) (cpn b b2 5) (cpn c c2 5) := by
  obtain ⟨sn, h1, h2, h3, h4⟩ := h
  refine ⟨sn, h1, h2, h3, fun k hk => ?_⟩
  unfold cpn
  rw [if_pos (by omega), if_pos (by omega), if_pos (by omega)]
  exact h4 k hk
theorem jB_cp {pp : Nat} {cn ct : Int32} {r a b a2 b2 : Nat → Int32} (h : jB pp cn ct r a b) : jB pp cn ct r (cpn a a2 8) (cpn b b2 8) := by
  obtain ⟨sn, h1, h2, h3, h4⟩ := h
  refine ⟨sn, h1, h2, h3, fun k hk => ?_⟩
  unfold cpn
  rw [if_pos (by omega), if_pos (by omega)]
  exact h4 k hk
theorem jP_cp {pp : Nat} {cn ct : Int32} {r a b a2 b2 : Nat → Int32} (h : jP pp cn ct r a b) : jP pp cn ct r (cpn a a2 8) (cpn b b2 8) := by
  obtain ⟨sn, h1, h2, h3, h4⟩ := h
  refine ⟨sn, h1, h2, h3, fun k hk => ?_⟩
  unfold cpn
  rw [if_pos (by omega), if_pos (by omega)]
  exact h4 k hk
end
