section
variable {g : Gl} {I : Ty} {L : TL} {R : TR} {N : TN} {n : Nat}
theorem s_goal (h : JX I L R N n) (pz cz : Int32) : StpI g yX8_goal cX8_goal 4 1 0 0 yX9_goal cX9_goal 4 3 [.int pz, .int cz] I L R N n := by
  obtain ⟨na, nt, ni, c, nl, pp, hh, rfl, rfl, rfl, hJ⟩ := h
  obtain ⟨hpp, hpe, _⟩ := JJ_8 hJ
  refine ms (c_X8_goal pz cz pp hpp hpe) (fun kp nt' => ⟨_, _, _, ?_, c_X9_goal (I := scC _ kp) pz cz pp hpp ?_, pp, hh, ?_⟩)
  · by_cases q : inr pz pp ∧ (cz = -1 ∨ inr cz 16)
    · rw [ifc_t q, ifc_t q, ifc_t q]; exact congrFun (JJ_E hJ).2.2.2.2.2.2.2.1 _
    · rw [ifc_f q, ifc_f q]
  · by_cases q : inr pz pp ∧ (cz = -1 ∨ inr cz 16)
    · rw [ifc_t q]; exact hJ.2.1.2.2.2.1
    · rw [ifc_f q]; exact hJ.2.1.2.2.2.1
  · by_cases q : inr pz pp ∧ (cz = -1 ∨ inr cz 16)
    · rw [ifc_t q, ifc_t q]
      obtain ⟨h1, h2, h3, h4, h5, h6, h7, h8, h9⟩ := hJ
      have w := jL_gl h3 (j := tn pz) (by have := inr_lt q.1; omega) q.2
      exact ⟨jN_keep (I := I) rfl rfl rfl rfl rfl rfl rfl rfl rfl rfl (hi_up (by decide) (hi_scC (hi_up (by decide) (hi_0 I)))) h1, h2, w, h4, h5, h6, h7, jT_keep (I := I) (L := L) rfl rfl (tp_cases ⟨rfl, rfl, rfl, rfl, rfl, rfl⟩) rfl h8, h9⟩
    · rw [ifc_f q, ifc_f q]; exact JJ_scC kp hJ
theorem s_chart (h : JX I L R N n) (pz xz : Int32) : StpI g yX8_chart cX8_chart 4 1 0 0 yX9_chart cX9_chart 4 3 [.int pz, .int xz] I L R N n := by
  obtain ⟨na, nt, ni, c, nl, pp, hh, rfl, rfl, rfl, hJ⟩ := h
  obtain ⟨hpp, hpe, _⟩ := JJ_8 hJ
  refine ms (c_X8_chart pz xz pp hpp hpe) (fun kp nt' => ⟨_, _, _, ?_, c_X9_chart (I := scC _ kp) pz xz pp hpp ?_, pp, hh, ?_⟩)
  · refine ifc_cg (fun q1 => ifc_cg (fun q2 => ?_) (fun _ => rfl)) (fun _ => rfl)
    rw [ifc_t ⟨q1, q2⟩]; exact congrFun (JJ_E hJ).2.2.2.2.2.2.2.2.1 _
  · by_cases q : inr pz pp ∧ inr xz 65536
    · rw [ifc_t q]; exact hJ.2.1.2.2.2.1
    · rw [ifc_f q]; exact hJ.2.1.2.2.2.1
  · by_cases q : inr pz pp ∧ inr xz 65536
    · rw [ifc_t q, ifc_t q]
      obtain ⟨h1, h2, h3, h4, h5, h6, h7, h8, h9⟩ := hJ
      have w := jL_ch h3 (j := tn pz) (by have := inr_lt q.1; omega) q.2
      exact ⟨jN_keep (I := I) rfl rfl rfl rfl rfl rfl rfl rfl rfl rfl (hi_up (by decide) (hi_scC (hi_up (by decide) (hi_0 I)))) h1, h2, w, h4, h5, h6, h7, jT_keep (I := I) (L := L) rfl rfl (tp_cases ⟨rfl, rfl, rfl, rfl, rfl, rfl⟩) rfl h8, h9⟩
    · rw [ifc_f q, ifc_f q]; exact JJ_scC kp hJ
theorem s_gate (h : JX I L R N n) (cz nz : Int32) : StpI g yX8_gate cX8_gate 4 1 0 0 yX9_gate cX9_gate 4 3 [.int cz, .int nz] I L R N n := by
  obtain ⟨na, nt, ni, c, nl, pp, hh, rfl, rfl, rfl, hJ⟩ := h
  refine ms (c_X8_gate cz nz) (fun kp nt' => ⟨_, _, _, ?_, c_X9_gate (I := scC _ kp) cz nz, pp, hh, ?_⟩)
  · refine ifc_cg (fun q1 => ifc_cg (fun q2 => ?_) (fun _ => rfl)) (fun _ => rfl)
    rw [ifc_t ⟨q1, q2⟩]; exact congrFun (JJ_E hJ).2.2.2.1 _
  · by_cases q : inr cz 16 ∧ inr nz 10
    · rw [ifc_t q, ifc_t q]
      obtain ⟨h1, h2, h3, h4, h5, h6, h7, h8, h9⟩ := hJ
      have w := jL_ga (x := nz) h3 (j := tn cz) (inr_lt q.1)
      exact ⟨jN_keep (I := I) rfl rfl rfl rfl rfl rfl rfl rfl rfl rfl (hi_up (by decide) (hi_scC (hi_up (by decide) (hi_0 I)))) h1, h2, w, h4, h5, h6, h7, jT_keep (I := I) (L := L) rfl rfl (tp_cases ⟨rfl, rfl, rfl, rfl, rfl, rfl⟩) rfl h8, h9⟩
    · rw [ifc_f q, ifc_f q]; exact JJ_scC kp hJ
theorem s_row (h : JX I L R N n) (pz qz nz : Int32) : StpI g yX8_row cX8_row 6 1 0 0 yX9_row cX9_row 5 3 [.int pz, .int qz, .int nz] I L R N n := by
  obtain ⟨na, nt, ni, c, nl, pp, hh, rfl, rfl, rfl, hJ⟩ := h
  obtain ⟨hpp, hpe, _⟩ := JJ_8 hJ
  have e25 : I 67 = I 25 := (JJ_E hJ).2.2.2.2.1
  refine ms (c_X8_row pz qz nz pp hpp hpe) (fun kp nt' => ⟨_, _, _, ?_, c_X9_row (I := scC _ kp) pz qz nz pp hpp ?_, pp, hh, ?_⟩)
  · by_cases q : inr pz pp ∧ inr qz 4 ∧ inr nz 10 ∧ I 25 (tn pz) = 6
    · rw [ifc_t q]
      refine ifc_cg (fun q1 => ifc_cg (fun q2 => ifc_c2 (by show I 67 (tn pz) = 6 ↔ _; rw [e25]) (fun q3 => ?_) (fun _ => rfl)) (fun _ => rfl)) (fun _ => rfl)
      exact congrFun (JJ_E hJ).2.2.2.2.2.2.2.2.2.2.1 _
    · rw [ifc_f q]
      refine ifc_cg (fun q1 => ifc_cg (fun q2 => ifc_c2 (by show I 67 (tn pz) = 6 ↔ _; rw [e25]) (fun q3 => ?_) (fun _ => rfl)) (fun _ => rfl)) (fun _ => rfl)
      exact congrFun (JJ_E hJ).2.2.2.2.2.2.2.2.2.2.1 _
  · by_cases q : inr pz pp ∧ inr qz 4 ∧ inr nz 10 ∧ I 25 (tn pz) = 6
    · rw [ifc_t q]; exact hJ.2.1.2.2.2.1
    · rw [ifc_f q]; exact hJ.2.1.2.2.2.1
  · by_cases q : inr pz pp ∧ inr qz 4 ∧ inr nz 10 ∧ I 25 (tn pz) = 6
    · rw [ifc_t q, ifc_t (P := inr pz pp ∧ inr qz 4 ∧ inr nz 10 ∧ scC (wr I 31 (4 * tn pz + tn qz) nz) kp 67 (tn pz) = 6) (show inr pz pp ∧ inr qz 4 ∧ inr nz 10 ∧ I 67 (tn pz) = 6 by rw [e25]; exact q)]
      obtain ⟨h1, h2, h3, h4, h5, h6, h7, h8, h9⟩ := hJ
      have w := jL_rw (x := nz) h3 (j := 4 * tn pz + tn qz) (by have := inr_lt q.1; have := inr_lt q.2.1; omega)
      exact ⟨jN_keep (I := I) rfl rfl rfl rfl rfl rfl rfl rfl rfl rfl (hi_up (by decide) (hi_scC (hi_up (by decide) (hi_0 I)))) h1, h2, w, h4, h5, h6, h7, jT_keep (I := I) (L := L) rfl rfl (tp_cases ⟨rfl, rfl, rfl, rfl, rfl, rfl⟩) rfl h8, h9⟩
    · rw [ifc_f q, ifc_f (P := inr pz pp ∧ inr qz 4 ∧ inr nz 10 ∧ scC I kp 67 (tn pz) = 6) (show ¬ (inr pz pp ∧ inr qz 4 ∧ inr nz 10 ∧ I 67 (tn pz) = 6) by rw [e25]; exact q)]; exact JJ_scC kp hJ
theorem s_feed (h : JX I L R N n) (sz : Int32) : StpI g yX8_feed cX8_feed 2 1 0 0 yX9_feed cX9_feed 2 3 [.int sz] I L R N n := by
  obtain ⟨na, nt, ni, c, nl, pp, hh, rfl, rfl, rfl, hJ⟩ := h
  obtain ⟨fd, hf, f0, f1, f2⟩ : jF I := hJ.2.2.2.2.2.1
  refine ms (c_X8_feed sz fd hf f0) (fun kp nt' => ⟨_, _, _, ?_, c_X9_feed (I := scC _ kp) sz fd hf ?_, pp, hh, ?_⟩)
  · rfl
  · by_cases q : inr sz 128 ∧ fd ≠ 100
    · rw [ifc_t q]; exact f1
    · rw [ifc_f q]; exact f1
  · by_cases q : inr sz 128 ∧ fd ≠ 100
    · rw [ifc_t q, ifc_t q]
      obtain ⟨h1, h2, h3, h4, h5, h6, h7, h8, h9⟩ := hJ
      have w : nI (fd + 1) = nI (fd + 1) ∧ nI (fd + 1) = nI (fd + 1) ∧ va_up (I 74) fd sz = va_up (I 16) fd sz := ⟨rfl, rfl, by rw [f2]⟩
      exact ⟨jN_keep (I := I) rfl rfl rfl rfl rfl rfl rfl rfl rfl rfl (hi_up (by decide) (hi_up (by decide) (hi_scC (hi_up (by decide) (hi_up (by decide) (hi_0 I)))))) h1, h2, h3, h4, h5, ⟨fd + 1, by have := q.2; omega, w⟩, h7, jT_keep (I := I) (L := L) rfl rfl (tp_cases ⟨rfl, rfl, rfl, rfl, rfl, rfl⟩) rfl h8, h9⟩
    · rw [ifc_f q, ifc_f q]; exact JJ_scC kp hJ
theorem jS_mono {pp : Nat} {cn ct : Int32} {r a b c : Nat → Int32} (h : jS pp cn ct r a b c) : jS (pp + 1) cn ct r a b c := by
  obtain ⟨sn, h1, h2, h3, h4⟩ := h
  exact ⟨sn, h1, h2, h3, fun k hk => by obtain ⟨⟨w, hw, e⟩, q⟩ := h4 k hk; exact ⟨⟨w, by omega, e⟩, q⟩⟩
theorem jB_mono {pp : Nat} {cn ct : Int32} {r a b : Nat → Int32} (h : jB pp cn ct r a b) : jB (pp + 1) cn ct r a b := by
  obtain ⟨sn, h1, h2, h3, h4⟩ := h
  exact ⟨sn, h1, h2, h3, fun k hk => by obtain ⟨⟨w, hw, e⟩, q⟩ := h4 k hk; exact ⟨⟨w, by omega, e⟩, q⟩⟩
theorem jP_mono {pp : Nat} {cn ct : Int32} {r a b : Nat → Int32} (h : jP pp cn ct r a b) : jP (pp + 1) cn ct r a b := by
  obtain ⟨sn, h1, h2, h3, h4⟩ := h
  refine ⟨sn, h1, h2, h3, fun k hk => ?_⟩
  obtain ⟨w, a1, a2, a3, a4, a5⟩ := h4 k hk
  refine ⟨w, a1, a2, a3, ?_, a5⟩
  rcases a4 with q | ⟨x, e1, e2, e3⟩
  · exact Or.inl q
  · refine Or.inr ⟨x, e1, e2, ?_⟩
    rcases e3 with ⟨u, v⟩ | ⟨u, v, v2⟩ | ⟨u, v⟩
    · exact Or.inl ⟨u, by omega⟩
    · exact Or.inr (Or.inl ⟨u, by omega, by omega⟩)
    · exact Or.inr (Or.inr ⟨u, by omega⟩)
theorem s_traveller (h : JX I L R N n) (kz vz cz : Int32) : StpI g yX8_traveller cX8_traveller 4 1 0 0 yX9_traveller cX9_traveller 5 3 [.int kz, .int vz, .int cz] I L R N n := by
  obtain ⟨na, nt, ni, c, nl, pp, hh, rfl, rfl, rfl, hJ⟩ := h
  obtain ⟨hpp, hpe, _⟩ := JJ_8 hJ
  by_cases q : inr kz 7 ∧ inr cz 16 ∧ inr vz 10 ∧ pp ≠ 6
  · refine ms (c_X8_traveller kz vz cz pp hpp hpe) (fun kp nt' => ⟨_, _, _, rfl, c_X9_traveller (I := scC _ kp) kz vz cz pp hpp ?_, pp + 1, hh, ?_⟩)
    · rw [ifc_t q]; exact hJ.2.1.2.2.2.1
    · rw [ifc_t q, ifc_t q]
      obtain ⟨h1, h2, h3, ⟨k1, k2, k3⟩, h5, h6, h7, h8, h9⟩ := hJ
      have w := jL_new h3 (p := pp) (k := kz) (v := vz) (c := cz) (by have := q.2.2.2; omega) q.1 q.2.1
      have w4 : jS (pp + 1) (I 2 0) (I 65 35) (I 3) (I 89) (I 90) (I 91) ∧ jP (pp + 1) (I 4 0) (I 65 39) (I 5) (I 92) (I 93) ∧ jB (pp + 1) (I 6 0) (I 65 40) (I 7) (I 94) (I 95) := ⟨jS_mono k1, jP_mono k2, jB_mono k3⟩
      have w2 : pp + 1 ≤ 6 ∧ hh ≤ 9999 ∧ nI (pp + 1) = nI (pp + 1) ∧ nI (pp + 1) = nI (pp + 1) ∧ I 23 9 = nI hh ∧ I 65 1 = nI hh ∧ I 23 11 = 63 ∧ I 65 29 = 9999 := ⟨by have := q.2.2.2; omega, h2.2.1, rfl, rfl, h2.2.2.2.2⟩
      have hz : hiE (mTrav (scC (cTrav I pp kz vz cz) kp) pp kz vz cz) I := fun a ha => by
        refine (hi_up (k := 65) (by decide) (hi_up (k := 73) (by decide) (hi_up (k := 73) (by decide) (hi_up (k := 73) (by decide) (hi_up (k := 73) (by decide) (hi_up (k := 72) (by decide) (hi_up (k := 71) (by decide) (hi_up (k := 70) (by decide) (hi_up (k := 69) (by decide) (hi_up (k := 68) (by decide) (hi_up (k := 67) (by decide) (hi_scC (kp := kp) ?_)))))))))))) a ha
        exact hi_up (k := 23) (by decide) (hi_up (k := 31) (by decide) (hi_up (k := 31) (by decide) (hi_up (k := 31) (by decide) (hi_up (k := 31) (by decide) (hi_up (k := 30) (by decide) (hi_up (k := 29) (by decide) (hi_up (k := 28) (by decide) (hi_up (k := 27) (by decide) (hi_up (k := 26) (by decide) (hi_up (k := 25) (by decide) (hi_0 I)))))))))))
      exact ⟨jN_keep (I := I) rfl rfl rfl rfl rfl rfl rfl rfl rfl rfl hz h1, w2, w, w4, h5, h6, h7, jT_keep (I := I) (L := L) rfl rfl (tp_cases ⟨rfl, rfl, rfl, rfl, rfl, rfl⟩) rfl h8, h9⟩
  · refine ms (c_X8_traveller kz vz cz pp hpp hpe) (fun kp nt' => ⟨_, _, _, rfl, c_X9_traveller (I := scC _ kp) kz vz cz pp hpp ?_, pp, hh, ?_⟩)
    · rw [ifc_f q]; exact hJ.2.1.2.2.2.1
    · rw [ifc_f q, ifc_f q]; exact JJ_scC kp hJ
end
