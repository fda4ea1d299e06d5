section
variable {g : Gl} {I : Ty} {L : TL} {R : TR} {N : TN} {n : Nat}
theorem s_image (h : JX I L R N n) : StpI g yX8_image cX8_image 1 3 0 0 yX9_image cX9_image 2 0 [] I L R N n := by
  obtain ⟨na, nt, ni, c, nl, pp, hh, rfl, rfl, rfl, hJ⟩ := h
  refine ms (c_X8_image hJ.2.2.2.2.1.2.2.2.1 hJ.2.2.2.2.1.2.2.2.2.1 hJ.2.2.2.2.1.2.2.2.2.2.1) (fun kp nt' => ⟨_, _, _, ?_, c_X9_image (I := scC (imgC I) kp), pp, hh, ?_⟩)
  · exact hJ.2.1.2.2.2.1.trans hJ.2.1.2.2.1.symm
  · obtain ⟨h1, h2, h3, ⟨k1, k2, k3⟩, h5, h6, h7, h8, ⟨⟨o1, o2, o3, o4, o5, o6, o7, o8⟩, _⟩⟩ := hJ
    have hi : hiE (imgI (scC (imgC I) kp)) I := hi_cpB (by decide) (hi_cpB (by decide) (hi_cpB (by decide) (hi_cpB (by decide) (hi_cpB (by decide) (hi_up (by decide) (hi_up (by decide) (hi_up (by decide) (hi_up (by decide) (hi_up (by decide) (hi_up (by decide) (hi_up (by decide) (hi_scC (hi_up (by decide) (hi_cpR (by decide) (hi_cpR (by decide) (hi_cpR (by decide) (hi_cpL (by decide) (hi_0 I))))))))))))))))))
    have h3b : jL (I 24) (I 25) (I 26) (I 27) (I 28) (I 29) (I 30) (I 31) (I 66) (I 67) (I 68) (I 69) (I 70) (I 71) (I 72) (I 73) := h3
    obtain ⟨e1, e2, e3, e4, e5, e6, e7, e8, ⟨z1, z2, z3, z4, z5, z6, z7, z8⟩, _⟩ := h3b
    have zg : oz 6 (I 70) := by
      rw [e5]; intro j hj
      unfold gF; rw [z5 j hj]; exact ifc_f (by decide)
    have f1 : cpn (I 66) (I 96) 16 = I 66 := cpn_all (by rw [e1]; exact z1) o1
    have f2 : cpn (I 67) (I 97) 6 = I 67 := cpn_all (by rw [e2]; exact z2) o2
    have f3 : cpn (I 68) (I 98) 6 = I 68 := cpn_all (by rw [e3]; exact z3) o3
    have f4 : cpn (I 69) (I 99) 6 = I 69 := cpn_all (by rw [e4]; exact z4) o4
    have f5 : cpn (I 70) (I 100) 6 = I 70 := cpn_all zg o5
    have f6 : cpn (I 71) (I 101) 6 = I 71 := cpn_all (by rw [e6]; exact z6) o6
    have f7 : cpn (I 72) (I 102) 6 = I 72 := cpn_all (by rw [e7]; exact z7) o7
    have f8 : cpn (I 73) (I 103) 24 = I 73 := cpn_all (by rw [e8]; exact z8) o8
    have wO : oz 16 (cpn (I 66) (I 96) 16) ∧ oz 6 (cpn (I 67) (I 97) 6) ∧ oz 6 (cpn (I 68) (I 98) 6) ∧ oz 6 (cpn (I 69) (I 99) 6) ∧ oz 6 (cpn (I 70) (I 100) 6) ∧ oz 6 (cpn (I 71) (I 101) 6) ∧ oz 6 (cpn (I 72) (I 102) 6) ∧ oz 24 (cpn (I 73) (I 103) 24) := by
      rw [f1, f2, f3, f4, f5, f6, f7, f8, e1, e2, e3, e4, e6, e7, e8]
      exact ⟨z1, z2, z3, z4, zg, z6, z7, z8⟩
    have wV : jL (I 24) (I 25) (I 26) (I 27) (I 28) (I 29) (I 30) (I 31) (cpn (I 66) (I 96) 16) (cpn (I 67) (I 97) 6) (cpn (I 68) (I 98) 6) (cpn (I 69) (I 99) 6) (cpn (I 70) (I 100) 6) (cpn (I 71) (I 101) 6) (cpn (I 72) (I 102) 6) (cpn (I 73) (I 103) 24) := by
      rw [f1, f2, f3, f4, f5, f6, f7, f8]; exact h3
    have wG : jS pp (I 2 0) (I 65 35) (I 3) (cpn (I 89) (I 104) 5) (cpn (I 90) (I 105) 5) (cpn (I 91) (I 106) 5) ∧ jP pp (I 4 0) (I 65 39) (I 5) (cpn (I 92) (I 107) 8) (cpn (I 93) (I 108) 8) ∧ jB pp (I 6 0) (I 65 40) (I 7) (cpn (I 94) (I 109) 8) (cpn (I 95) (I 110) 8) := ⟨jS_cp k1, jP_cp k2, jB_cp k3⟩
    exact ⟨jN_keep (I := I) rfl rfl rfl rfl rfl rfl rfl rfl rfl rfl hi h1, h2, h3, ⟨k1, k2, k3⟩, h5, h6, h7, jT_keep (I := I) (L := L) rfl rfl (tp_cases ⟨rfl, rfl, rfl, rfl, rfl, rfl⟩) rfl h8, wO, Or.inr ⟨rfl, rfl, h1.2.1, h1.2.2.1, pp, hh, h2.1, h2.2.1, h2.2.2.1, h2.2.2.2.1, h2.2.2.2.2.1, h2.2.2.2.2.2.1, wV, wG⟩⟩
theorem s_undo (h : JX I L R N n) : StpI g yX8_undo cX8_undo 1 3 0 0 yX9_undo cX9_undo 2 0 [] I L R N n := by
  obtain ⟨na, nt, ni, c, nl, pp, hh, rfl, rfl, rfl, hJ⟩ := h
  have hI : jI I ni c := hJ.2.2.2.2.2.2.2.2
  rcases hI.2 with ⟨u1, u2⟩ | ⟨u1, u2, u3, u4, pq, hq, v1, v2, v3, v4, v5, v6, v7, v8⟩
  · refine ms (c_undo0 u1) (fun kp nt' => ⟨_, _, _, ?_, c_X9_undo (I := scC I kp), pp, hh, ?_⟩)
    · exact ifc_t u2
    · rw [ifc_t (P := scC I kp 65 45 = 0) u2]; exact JJ_scC kp hJ
  · have u1n : ¬ I 0 5 = 0 := by rw [u1]; decide
    have u2n : ¬ I 65 45 = 0 := by rw [u2]; decide
    refine ms (c_undo1 u1n hJ.2.2.2.2.1.1 hJ.2.2.2.2.1.2.1 hJ.2.2.2.2.1.2.2.1) (fun kp nt' => ⟨_, _, _, ?_, c_X9_undo (I := scC (undC I) kp), pq, hq, ?_⟩)
    · exact (ifc_f (P := scC (undC I) kp 65 45 = 0) u2n).trans (v4.trans v3.symm)
    · rw [ifc_f (P := scC (undC I) kp 65 45 = 0) u2n]
      obtain ⟨h1, h2, h3, ⟨k1, k2, k3⟩, h5, h6, h7, h8, h9⟩ := hJ
      have hi : hiE (undI (scC (undC I) kp)) I := hi_cpB (by decide) (hi_cpB (by decide) (hi_cpB (by decide) (hi_cpB (by decide) (hi_cpB (by decide) (hi_up (by decide) (hi_up (by decide) (hi_up (by decide) (hi_up (by decide) (hi_up (by decide) (hi_up (by decide) (hi_scC (hi_cpR (by decide) (hi_cpR (by decide) (hi_cpR (by decide) (hi_cpL (by decide) (hi_0 I))))))))))))))))
      have h3b : jL (I 24) (I 25) (I 26) (I 27) (I 28) (I 29) (I 30) (I 31) (I 66) (I 67) (I 68) (I 69) (I 70) (I 71) (I 72) (I 73) := h3
      obtain ⟨e1, e2, e3, e4, e5, e6, e7, e8, ⟨z1, z2, z3, z4, z5, z6, z7, z8⟩, _⟩ := h3b
      have zg : oz 6 (I 70) := by
        rw [e5]; intro j hj
        unfold gF; rw [z5 j hj]; exact ifc_f (by decide)
      obtain ⟨⟨o1, o2, o3, o4, o5, o6, o7, o8⟩, _⟩ := hI
      have f1 : cpn (I 96) (I 66) 16 = I 96 := cpn_all o1 (by rw [e1]; exact z1)
      have f2 : cpn (I 97) (I 67) 6 = I 97 := cpn_all o2 (by rw [e2]; exact z2)
      have f3 : cpn (I 98) (I 68) 6 = I 98 := cpn_all o3 (by rw [e3]; exact z3)
      have f4 : cpn (I 99) (I 69) 6 = I 99 := cpn_all o4 (by rw [e4]; exact z4)
      have f5 : cpn (I 100) (I 70) 6 = I 100 := cpn_all o5 zg
      have f6 : cpn (I 101) (I 71) 6 = I 101 := cpn_all o6 (by rw [e6]; exact z6)
      have f7 : cpn (I 102) (I 72) 6 = I 102 := cpn_all o7 (by rw [e7]; exact z7)
      have f8 : cpn (I 103) (I 73) 24 = I 103 := cpn_all o8 (by rw [e8]; exact z8)
      have wV : jL (I 44) (I 45) (I 46) (I 47) (I 48) (I 49) (I 50) (I 51) (cpn (I 96) (I 66) 16) (cpn (I 97) (I 67) 6) (cpn (I 98) (I 68) 6) (cpn (I 99) (I 69) 6) (cpn (I 100) (I 70) 6) (cpn (I 101) (I 71) 6) (cpn (I 102) (I 72) 6) (cpn (I 103) (I 73) 24) := by
        rw [f1, f2, f3, f4, f5, f6, f7, f8]; exact v7
      obtain ⟨g1, g2, g3⟩ := v8
      have wG : jS pq (I 9 0) (I 65 49) (I 10) (cpn (I 104) (I 89) 5) (cpn (I 105) (I 90) 5) (cpn (I 106) (I 91) 5) ∧ jP pq (I 11 0) (I 65 50) (I 12) (cpn (I 107) (I 92) 8) (cpn (I 108) (I 93) 8) ∧ jB pq (I 13 0) (I 65 51) (I 14) (cpn (I 109) (I 94) 8) (cpn (I 110) (I 95) 8) := ⟨jS_cp g1, jP_cp g2, jB_cp g3⟩
      have wN : jN (undI (scC (undC I) kp)) nl ni c := ⟨h1.1, u3, u4, h1.2.2.2.1, h1.2.2.2.2.1, h1.2.2.2.2.2.1, fun i hi2 => NaR_keep (I := I) rfl rfl rfl rfl rfl rfl hi (h1.2.2.2.2.2.2 i hi2)⟩
      exact ⟨wN, ⟨v1, v2, v3, v4, v5, v6, rfl, h2.2.2.2.2.2.2.2⟩, wV, wG, h5, h6, h7, jT_keep (I := I) (L := L) rfl rfl (tp_cases ⟨rfl, rfl, rfl, rfl, rfl, rfl⟩) rfl h8, h9⟩
end
