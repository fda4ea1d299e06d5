/-! the calls that change nothing -/
section
variable {g : Gl} {I : Ty} {L : TL} {R : TR} {N : TN} {n : Nat}
theorem s_of (h : JX I L R N n) (pz wz : Int32) : StpI g yX8_of cX8_of 3 8 0 0 yX9_of cX9_of 3 9 [.int pz, .int wz] I L R N n := by
  obtain ⟨na, nt, ni, c, nl, pp, hh, rfl, rfl, rfl, hJ⟩ := h
  obtain ⟨hpp, hpe, hxm, hsl, hok, hS, hch, hG, hnb⟩ := JJ_8 hJ
  obtain ⟨sn, hsn, hs0, hs1, hk⟩ := hJ.2.2.2.1.1
  refine qk hJ (c_X8_of pz wz pp hpp hpe hxm hsl hok hS hch hG sn hsn hs0 (fun k q => (hk k q).1) (fun k q => (hk k q).2.1)) (fun kp nt' => ?_)
  obtain ⟨hme, hN, hSm, hGm, h29⟩ := JJ_9 (JJ_scC kp hJ)
  have hE := JJ_Q hJ kp
  have hQ : SQ (scC I kp) I pp sn := hk
  refine ⟨_, ?_, c_X9_of (I := scC I kp) pz wz pp hpp hme hN hSm hGm h29 sn hsn hs1 (fun k q => by obtain ⟨⟨w, hw, e⟩, _, e2, _⟩ := hQ k q; exact ⟨w, by omega, e2.trans e⟩) (fun k q => by obtain ⟨_, ⟨w, hw, e⟩, _, e2, _⟩ := hQ k q; exact ⟨w, hw, e2.trans e⟩)⟩
  refine ifc_cg (fun hp => ?_) (fun _ => rfl)
  have hp6 : tn pz < 6 := by have := inr_lt hp; omega
  unfold ofV
  refine ifc_cg (fun _ => congrFun hE.2.1 _) (fun _ => ifc_cg (fun _ => congrFun hE.2.2.1 _) (fun _ => ifc_cg (fun _ => congrFun hE.2.2.2.1 _) (fun _ => ifc_cg (fun _ => congrFun hE.2.2.2.2.1 _) (fun _ => ifc_cg (fun _ => congrFun hE.2.2.2.2.2.1 _) (fun _ => ifc_cg (fun _ => congrFun hE.2.2.2.2.2.2.1 _) (fun _ => ifc_cg (fun _ => ?_) (fun _ => ifc_cg (fun _ => ?_) (fun _ => ifc_cg (fun _ => ?_) (fun _ => ifc_cg (fun _ => ?_) (fun _ => ifc_cg (fun _ => ?_) (fun _ => rfl)))))))))))
  · exact there_eq hE hpp hnb hp6
  · rw [wel_eq hE]
  · exact lentV_eq hE hpp
  · exact congrArg Prod.fst (key_eq hE hpp hnb hp6 16)
  · exact from_eq hE hpp hnb hQ 16
theorem s_told (h : JX I L R N n) (wz : Int32) : StpI g yX8_told cX8_told 2 1 0 0 yX9_told cX9_told 2 3 [.int wz] I L R N n := by
  obtain ⟨na, nt, ni, c, nl, pp, hh, rfl, rfl, rfl, hJ⟩ := h
  obtain ⟨hpp, hpe, hxm, hsl, hok, hS, hch, hG, hnb⟩ := JJ_8 hJ
  refine qs hJ (c_X8_told wz pp hpp hpe hxm) (fun kp nt' => ?_)
  obtain ⟨hme, hN, hSm, hGm, h29⟩ := JJ_9 (JJ_scC kp hJ)
  have hE := JJ_Q hJ kp
  refine ⟨_, ?_, c_X9_told (I := scC I kp) wz pp hpp hme hN⟩
  obtain ⟨e0, e1, e2, e3, e4, e5, e6, e7, e8, e9, e10⟩ := hE
  refine ifc_cg (fun _ => congrFun e0 _) (fun _ => ifc_cg (fun _ => e8) (fun _ => ifc_cg (fun _ => e10.symm) (fun _ => ifc_cg (fun _ => ?_) (fun _ => ifc_cg (fun _ => ?_) (fun _ => rfl)))))
  · rw [e3, e4]; exact arrF_eq hS pp hpp
  · rw [e6]
theorem s_welcome (h : JX I L R N n) (pz cz : Int32) : StpI g yX8_welcome cX8_welcome 3 2 0 0 yX9_welcome cX9_welcome 3 4 [.int pz, .int cz] I L R N n := by
  obtain ⟨na, nt, ni, c, nl, pp, hh, rfl, rfl, rfl, hJ⟩ := h
  obtain ⟨hpp, hpe, hxm, hsl, hok, hS, hch, hG, hnb⟩ := JJ_8 hJ
  refine qq hJ (c_X8_welcome pz cz pp hpp hpe hxm hsl hok hch) (fun kp nt' => ?_)
  obtain ⟨hme, hN, hSm, hGm, h29⟩ := JJ_9 (JJ_scC kp hJ)
  have hE := JJ_Q hJ kp
  refine ⟨_, ?_, c_X9_welcome (I := scC I kp) pz cz pp hpp hme hN⟩
  rw [wel_eq hE]
theorem s_straight (h : JX I L R N n) (pz cz : Int32) : StpI g yX8_straight cX8_straight 3 3 0 0 yX9_straight cX9_straight 3 5 [.int pz, .int cz] I L R N n := by
  obtain ⟨na, nt, ni, c, nl, pp, hh, rfl, rfl, rfl, hJ⟩ := h
  obtain ⟨hpp, hpe, hxm, hsl, hok, hS, hch, hG, hnb⟩ := JJ_8 hJ
  refine qq hJ (c_X8_straight pz cz pp hpp hpe hxm hsl hok hch hS) (fun kp nt' => ?_)
  obtain ⟨hme, hN, hSm, hGm, h29⟩ := JJ_9 (JJ_scC kp hJ)
  have hE := JJ_Q hJ kp
  refine ⟨_, ?_, c_X9_straight (I := scC I kp) pz cz pp hpp hme hN hSm hGm⟩
  rw [wel_eq hE, hE.2.2.2.1]
theorem s_way (h : JX I L R N n) (pz cz kz : Int32) : StpI g yX8_way cX8_way 6 4 0 0 yX9_way cX9_way 7 4 [.int pz, .int cz, .int kz] I L R N n := by
  obtain ⟨na, nt, ni, c, nl, pp, hh, rfl, rfl, rfl, hJ⟩ := h
  obtain ⟨hpp, hpe, hxm, hsl, hok, hS, hch, hG, hnb⟩ := JJ_8 hJ
  refine qq hJ (c_X8_way pz cz kz pp hpp hpe hS) (fun kp nt' => ?_)
  obtain ⟨hme, hN, hSm, hGm, h29⟩ := JJ_9 (JJ_scC kp hJ)
  have hE := JJ_Q hJ kp
  refine ⟨_, ?_, c_X9_way (I := scC I kp) pz cz kz pp hpp hme hN hSm hGm⟩
  rw [hE.2.2.2.1, hE.2.2.2.2.2.1]
theorem s_on (h : JX I L R N n) (nz wz : Int32) : StpI g yX8_on cX8_on 5 6 0 0 yX9_on cX9_on 4 7 [.int nz, .int wz] I L R N n := by
  obtain ⟨na, nt, ni, c, nl, pp, hh, rfl, rfl, rfl, hJ⟩ := h
  obtain ⟨hpp, hpe, hxm, hsl, hok, hS, hch, hG, hnb⟩ := JJ_8 hJ
  refine qk hJ (c_X8_on nz wz pp hpp hpe hxm hsl hok hS hch hG) (fun kp nt' => ?_)
  obtain ⟨hme, hN, hSm, hGm, h29⟩ := JJ_9 (JJ_scC kp hJ)
  have hE := JJ_Q hJ kp
  refine ⟨_, ?_, c_X9_on (I := scC I kp) nz wz pp hpp hme hN hSm hGm h29⟩
  refine ifc_c2 (on_iff hpp wz) (fun hc => ifc_cg (fun hz => ?_) (fun _ => rfl)) (fun _ => rfl)
  exact on_eq hE hpp hnb (by have := inr_lt hz; omega) hc
theorem s_can (h : JX I L R N n) (pz wz : Int32) : StpI g yX8_can cX8_can 4 8 0 0 yX9_can cX9_can 7 8 [.int pz, .int wz] I L R N n := by
  obtain ⟨na, nt, ni, c, nl, pp, hh, rfl, rfl, rfl, hJ⟩ := h
  obtain ⟨hpp, hpe, hxm, hsl, hok, hS, hch, hG, hnb⟩ := JJ_8 hJ
  obtain ⟨sn, hsn, hs0, hs1, hk⟩ := hJ.2.2.2.1.1
  refine qk hJ (c_X8_can pz wz pp hpp hpe hxm hsl hok hS hch hG sn hsn hs0 (fun k q => (hk k q).1) (fun k q => (hk k q).2.1)) (fun kp nt' => ?_)
  obtain ⟨hme, hN, hSm, hGm, h29⟩ := JJ_9 (JJ_scC kp hJ)
  have hE := JJ_Q hJ kp
  have hQ : SQ (scC I kp) I pp sn := hk
  refine ⟨_, ?_, c_X9_can (I := scC I kp) pz wz pp hpp hme hN hSm hGm h29 sn hsn hs1 (fun k q => by obtain ⟨⟨w, hw, e⟩, _, e2, _⟩ := hQ k q; exact ⟨w, by omega, e2.trans e⟩) (fun k q => by obtain ⟨_, ⟨w, hw, e⟩, _, e2, _⟩ := hQ k q; exact ⟨w, hw, e2.trans e⟩)⟩
  refine ifc_cg (fun hp => ?_) (fun _ => rfl)
  rw [can_eq hE hpp hnb hQ 10]
  obtain ⟨q1, q2⟩ := can_P (P := fun v => ∀ k, k < sn → (chT I nl na pp (I 24) (va_up (I 26) (tn pz) (nI v)) (I 27) (snO (I 3) sn) (tn (I 3 (3 * k + 1)))).1.1 (tn (I 3 (3 * k))) = I 3 (3 * k + 2))
  exact ifc_cg (fun _ => q1.symm) (fun _ => q2.symm)
theorem s_odds (h : JX I L R N n) (pz pt : Int32) : StpL g yX8_odds cX8_odds 4 3 0 0 yX9_odds cX9_odds 6 5 [.int pz, .int pt] I L R N n := by
  obtain ⟨na, nt, ni, c, nl, pp, hh, rfl, rfl, rfl, hJ⟩ := h
  obtain ⟨hpp, hpe, hxm, hsl, hok, hS, hch, hG, hnb⟩ := JJ_8 hJ
  refine qql hJ (c_X8_odds pz pt pp hpp hpe hxm hsl hok hch hS) (fun kp nt' => ?_)
  obtain ⟨hme, hN, hSm, hGm, h29⟩ := JJ_9 (JJ_scC kp hJ)
  have hE := JJ_Q hJ kp
  refine ⟨_, ?_, c_X9_odds (I := scC I kp) pz pt pp hpp hme hN hSm hGm⟩
  rw [wel_eq hE, hE.2.2.2.1]
theorem s_mean (h : JX I L R N n) (pt : Int32) : StpL g yX8_mean cX8_mean 2 2 0 0 yX9_mean cX9_mean 4 3 [.int pt] I L R N n := by
  obtain ⟨na, nt, ni, c, nl, pp, hh, rfl, rfl, rfl, hJ⟩ := h
  obtain ⟨hpp, hpe, hxm, hsl, hok, hS, hch, hG, hnb⟩ := JJ_8 hJ
  refine qsl hJ (c_X8_mean pt pp hpp hpe hch) (fun kp nt' => ?_)
  obtain ⟨hme, hN, hSm, hGm, h29⟩ := JJ_9 (JJ_scC kp hJ)
  have hE := JJ_Q hJ kp
  refine ⟨_, ?_, c_X9_mean (I := scC I kp) pt pp hpp hme⟩
  rw [hE.2.2.2.2.2.1]
theorem s_ends (h : JX I L R N n) (wz : Int32) : StpI g yX8_ends cX8_ends 3 6 0 0 yX9_ends cX9_ends 3 7 [.int wz] I L R N n := by
  obtain ⟨na, nt, ni, c, nl, pp, hh, rfl, rfl, rfl, hJ⟩ := h
  obtain ⟨hpp, hpe, hxm, hsl, hok, hS, hch, hG, hnb⟩ := JJ_8 hJ
  obtain ⟨kn, hkn, hk0, hk1, hk⟩ := hJ.2.2.2.1.2.1
  have hf : ∀ k, k < kn → ∃ w, I 5 (3 * k) = nI w ∧ w < 4 ∧ plnOK pp w (I 5 (3 * k + 1)) := fun k q => by obtain ⟨w, a, b, _, d, _⟩ := hk k q; exact ⟨w, b, a, d⟩
  refine qk hJ (c_X8_ends wz pp hpp hpe hxm hsl hok hS hch hG kn hkn hk0 hf) (fun kp nt' => ?_)
  obtain ⟨hme, hN, hSm, hGm, h29⟩ := JJ_9 (JJ_scC kp hJ)
  have hE := JJ_Q hJ kp
  have hQ : PQ pp (I 5) (scC I kp 92) (scC I kp 93) kn := hk
  have hP : okP kn (scC I kp 92) (scC I kp 93) := fun k q => by
    obtain ⟨w, a, b, e, d, f⟩ := hQ k q
    by_cases h0 : w = 0
    · subst h0
      exact ⟨0, 0, e, f, a, by decide, Or.inl rfl⟩
    · rw [if_neg h0] at f
      obtain ⟨x, e1, e2, e3⟩ := d.resolve_left h0
      refine ⟨w, x, e, f.trans e1, a, e2, ?_⟩
      rcases e3 with ⟨u, v⟩ | ⟨u, v, v2⟩ | ⟨u, v⟩
      · exact Or.inr (Or.inl ⟨u, by omega⟩)
      · exact Or.inr (Or.inr (Or.inl ⟨u, by omega, by omega⟩))
      · exact Or.inr (Or.inr (Or.inr ⟨u, by omega⟩))
  refine ⟨_, ?_, c_X9_ends (I := scC I kp) wz pp hpp hme hN hSm hGm h29 kn hkn hk1 hP⟩
  refine ifc_cg (fun _ => ?_) (fun _ => rfl)
  obtain ⟨p1, p2, p3⟩ := plN_eq (ga := I 24) (kd := I 25) (vv := I 26) (rw := I 31) (ns := nsW I nl na) (fd := I (ncell na) 0) hpp hkn hQ (z := mgH23 I) (gl := I 28) hnb kn (Nat.le_refl _)
  have hY := plNC_ok (go := 63) (ga := I 24) (kd := I 25) (vv := I 26) (rw := I 31) (ns := nsW I nl na) (fd := I (ncell na) 0) (less := lessC 1000000) (y := (mgH23 I, I 28)) hpp ⟨⟨hS, hch⟩, hG⟩ hf kn (Nat.le_refl _)
  have e : mgetG (scC I kp) = (mgH23 I, gF (I 28)) := by
    obtain ⟨e0, e1, e2, e3, e4, e5, e6, e7, e8, e9, e10⟩ := hE
    show (((scC I kp 69, scC I kp 71, scC I kp 72), scC I kp 65 1), scC I kp 70) = _
    rw [e3, e4, e5, e6, e8]; rfl
  obtain ⟨e0, e1, e2, e3, e4, e5, e6, e7, e8, e9, e10⟩ := hE
  unfold endsV
  rw [e, e0, e1, e2, e7, ← e9, ← e10, p1, p2, arrF_eq hY.1.1 pp hpp]
theorem s_looked (h : JX I L R N n) : StpI g yX8_looked cX8_looked 3 2 0 0 yX9_looked cX9_looked 2 0 [] I L R N n := by
  obtain ⟨na, nt, ni, c, nl, pp, hh, rfl, rfl, rfl, hJ⟩ := h
  obtain ⟨hpp, hpe, hxm, hsl, hok, hS, hch, hG, hnb⟩ := JJ_8 hJ
  obtain ⟨bn, hbn, hb0, hb1, hk⟩ := hJ.2.2.2.1.2.2
  refine qs hJ (c_X8_looked pp hpp hpe bn hbn hb0 (fun k q => (hk k q).1)) (fun kp nt' => ?_)
  have hE := JJ_Q hJ kp
  have hQ : ∀ k, k < bn → (∃ w, w < pp ∧ I 7 (3 * k) = nI w) ∧ scC I kp 94 k = I 7 (3 * k) ∧ scC I kp 95 k = I 7 (3 * k + 1) := hk
  refine ⟨_, ?_, c_X9_looked (I := scC I kp) bn hbn hb1 (fun k q => by obtain ⟨⟨w, hw, e⟩, e2, _⟩ := hQ k q; exact ⟨w, by omega, e2.trans e⟩)⟩
  unfold lookV frsV
  rw [hE.2.2.2.2.2.1, frst_congr (Q := fun k => ¬ I 29 (tn (I 7 (3 * k))) = I 7 (3 * k + 1)) (fun k q => by obtain ⟨_, e1, e2⟩ := hQ k q; rw [e1, e2])]
end
