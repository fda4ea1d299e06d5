section
variable {g : Gl} {I : Ty} {L : TL} {R : TR} {N : TN} {n : Nat}
theorem jdg_b {sr : Int32} {ln b : Nat} {it it2 : Nat → Int64} {gt : Nat → Int32} {x : Int32} (hl : ln ≤ 60) (h : ∀ i, i < 60 → it (b + i) = it2 i) : jdgF sr ln b it gt x = jdgF sr ln 0 it2 gt x := by
  have e : frst (jhit sr ln b it gt x) 16 = frst (jhit sr ln 0 it2 gt x) 16 := frst_congr (fun c _ => by
    unfold jhit
    by_cases q : jout sr ln x c
    · exact ⟨fun _ => Or.inl q, fun _ => Or.inl q⟩
    · have q2 : tn x + c < ln := Nat.lt_of_not_le (fun w => q (Or.inr (Or.inr w)))
      rw [show b + tn x + c = b + (tn x + c) by omega, h (tn x + c) (by omega), show 0 + tn x + c = tn x + c by omega])
  unfold jdgF
  rw [e]
theorem jT_C {I : Ty} {L : TL} (h : jT I L) : tapC I := fun t ht => by
  obtain ⟨_, e, _, ⟨ln, hl, e2, _⟩, _⟩ := h t ht
  exact ⟨ln, hl, e.symm.trans e2⟩
theorem jT_O {I : Ty} {L : TL} (h : jT I L) : tapOK I := fun t ht => by
  obtain ⟨_, _, _, ⟨ln, hl, e2, _⟩, _⟩ := h t ht
  exact ⟨ln, hl, e2⟩
theorem s_judge (h : JX I L R N n) (tz iz : Int32) : StpI g yX8_judge cX8_judge 5 2 0 0 yX9_judge cX9_judge 4 3 [.int tz, .int iz] I L R N n := by
  obtain ⟨na, nt, ni, c, nl, pp, hh, rfl, rfl, rfl, hJ⟩ := h
  have hT : jT I L := hJ.2.2.2.2.2.2.2.1
  refine qs hJ (c_X8_judge tz iz (jT_C hT)) (fun kp nt' => ?_)
  have hTm : jT (scC I kp) L := (JJ_scC kp hJ).2.2.2.2.2.2.2.1
  refine ⟨_, ?_, c_X9_judge (I := scC I kp) tz iz (jT_O hTm)⟩
  refine ifc_cg (fun ht => ?_) (fun _ => rfl)
  obtain ⟨e1, e2, _, ⟨ln, hl, e3, _⟩, e4⟩ := hT (tn tz) (inr_lt ht)
  show ifc (0 < I 112 (tn tz)) _ (jdgF (I 112 (tn tz)) (tn (I 113 (tn tz))) (60 * tn tz) (L 114) (I 66) iz) = _
  rw [← e1, ← e2, e3, tn_nI (by omega), jdg_b hl e4, (JJ_E hJ).2.2.2.1]
theorem s_trace (h : JX I L R N n) (iz : Int32) : StpI g yX8_trace cX8_trace 2 2 0 0 yX9_trace cX9_trace 2 3 [.int iz] I L R N n := by
  obtain ⟨na, nt, ni, c, nl, pp, hh, rfl, rfl, rfl, hJ⟩ := h
  obtain ⟨rn, hr, h0, h1, h2⟩ : jR I := hJ.2.2.2.2.2.2.1
  refine qs hJ (c_X8_trace iz rn hr h0) (fun kp nt' => ?_)
  refine ⟨_, ?_, c_X9_trace (I := scC I kp) iz rn hr h1⟩
  refine ifc_c2 (by rw [inr_min]) (fun _ => congrFun h2 _) (fun _ => rfl)
theorem s_taken (h : JX I L R N n) (iz kz : Int32) : StpI g yX8_taken cX8_taken 4 2 0 0 yX9_taken cX9_taken 4 3 [.int iz, .int kz] I L R N n := by
  obtain ⟨na, nt, ni, c, nl, pp, hh, rfl, rfl, rfl, hJ⟩ := h
  obtain ⟨hpp, hpe, hxm, hsl, hok, hS, hch, hG, hnb⟩ := JJ_8 hJ
  refine qs hJ (c_X8_taken iz kz pp hpp hpe hJ.2.2.1.2.2.2.2.2.2.2.2.2.1) (fun kp nt' => ?_)
  obtain ⟨hme, hN, hSm, hGm, h29⟩ := JJ_9 (JJ_scC kp hJ)
  have hE := JJ_Q hJ kp
  refine ⟨_, ?_, c_X9_taken (I := scC I kp) iz kz pp hpp hme⟩
  rw [hE.2.1]
  rfl
theorem s_count (h : JX I L R N n) (wz : Int32) : StpI g yX8_count cX8_count 2 0 0 0 yX9_count cX9_count 2 0 [.int wz] I L R N n := by
  obtain ⟨na, nt, ni, c, nl, pp, hh, rfl, rfl, rfl, hJ⟩ := h
  refine qs hJ (c_X8_count wz) (fun kp nt' => ?_)
  refine ⟨_, ?_, c_X9_count (I := scC I kp) wz⟩
  obtain ⟨j1, j2, j3, ⟨⟨sn, _, s0, s1, _⟩, ⟨pn, _, p0, p1, _⟩, ⟨bn, _, b0, b1, _⟩⟩, j5, ⟨fd, _, f0, f1, _⟩, ⟨rn, _, r0, r1, _⟩, _⟩ := hJ
  refine ifc_cg (fun _ => j2.2.2.2.1.trans j2.2.2.1.symm) (fun _ => ifc_cg (fun _ => j1.2.2.2.2.1.trans j1.2.2.2.1.symm) (fun _ => ifc_cg (fun _ => s1.trans s0.symm) (fun _ => ifc_cg (fun _ => p1.trans p0.symm) (fun _ => ifc_cg (fun _ => b1.trans b0.symm) (fun _ => ifc_cg (fun _ => f1.trans f0.symm) (fun _ => ifc_cg (fun _ => r1.trans r0.symm) (fun _ => rfl)))))))
theorem s_read (h : JX I L R N n) (tz iz : Int32) : StpL g yX8_read cX8_read 4 1 0 0 yX9_read cX9_read 3 3 [.int tz, .int iz] I L R N n := by
  obtain ⟨na, nt, ni, c, nl, pp, hh, rfl, rfl, rfl, hJ⟩ := h
  have hT : jT I L := hJ.2.2.2.2.2.2.2.1
  refine qsl hJ (c_X8_read tz iz (jT_C hT)) (fun kp nt' => ?_)
  have hTm : jT (scC I kp) L := (JJ_scC kp hJ).2.2.2.2.2.2.2.1
  refine ⟨_, ?_, c_X9_read (I := scC I kp) tz iz (jT_O hTm)⟩
  show ifc (inr tz 6 ∧ ¬ I 112 (tn tz) < 0 ∧ inr iz (tn (I 113 (tn tz)))) _ _ = _
  by_cases ht : inr tz 6
  · obtain ⟨e1, e2, _, ⟨ln, hl, e3, e5⟩, e4⟩ := hT (tn tz) (inr_lt ht)
    rw [← e2]
    refine ifc_c2 ⟨fun q => ⟨q.1, q.2.2⟩, fun q => ⟨q.1, fun w => ?_, q.2⟩⟩ (fun q => ?_) (fun _ => rfl)
    · have q2 := inr_lt q.2
      rw [e3, e5 w, tn_nI (by decide)] at q2
      exact absurd q2 (Nat.not_lt_zero _)
    · have q2 := inr_lt q.2
      rw [e3, tn_nI (by omega)] at q2
      exact e4 _ (by omega)
  · rw [ifc_f (fun q => ht q.1), ifc_f (fun q => ht q.1)]
end
