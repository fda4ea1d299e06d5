section
variable {g : Gl} {I : Ty} {L : TL} {R : TR} {N : TN} {n : Nat}
theorem jS_app {pp sn : Nat} {cn ct x y z : Int32} {r a b c : Nat → Int32} (hs : sn ≤ 4) (h : ∀ k, k < sn → (∃ w, w < pp ∧ r (3 * k) = nI w) ∧ (∃ t, t ≤ 12 ∧ r (3 * k + 1) = nI t) ∧ a k = r (3 * k) ∧ b k = r (3 * k + 1) ∧ c k = r (3 * k + 2)) (hx : inr x pp) (hy : inr y 13) (h1 : cn = nI (sn + 1)) (h2 : ct = nI (sn + 1)) :
    jS pp cn ct (va_up (va_up (va_up r (3 * sn) x) (3 * sn + 1) y) (3 * sn + 2) z) (va_up a sn x) (va_up b sn y) (va_up c sn z) := by
  refine ⟨sn + 1, by omega, h1, h2, fun k hk => ?_⟩
  by_cases e : k = sn
  · subst e
    rw [up_off _ _ (show 3 * k ≠ 3 * k + 2 by omega), up_off _ _ (show 3 * k ≠ 3 * k + 1 by omega), up_at, up_off _ _ (show 3 * k + 1 ≠ 3 * k + 2 by omega), up_at, up_at, up_at, up_at, up_at]
    exact ⟨⟨tn x, inr_lt hx, inr_nI hx⟩, ⟨tn y, by have := inr_lt hy; omega, inr_nI hy⟩, rfl, rfl, rfl⟩
  · rw [up_off _ _ (show 3 * k ≠ 3 * sn + 2 by omega), up_off _ _ (show 3 * k ≠ 3 * sn + 1 by omega), up_off _ _ (show 3 * k ≠ 3 * sn by omega), up_off _ _ (show 3 * k + 1 ≠ 3 * sn + 2 by omega), up_off _ _ (show 3 * k + 1 ≠ 3 * sn + 1 by omega), up_off _ _ (show 3 * k + 1 ≠ 3 * sn by omega), up_off _ _ (show 3 * k + 2 ≠ 3 * sn + 2 by omega), up_off _ _ (show 3 * k + 2 ≠ 3 * sn + 1 by omega), up_off _ _ (show 3 * k + 2 ≠ 3 * sn by omega), up_off _ _ e, up_off _ _ e, up_off _ _ e]
    exact h k (by omega)
theorem jB_app {pp sn : Nat} {cn ct x y : Int32} {r a b : Nat → Int32} (hs : sn ≤ 7) (h : ∀ k, k < sn → (∃ w, w < pp ∧ r (3 * k) = nI w) ∧ a k = r (3 * k) ∧ b k = r (3 * k + 1)) (hx : inr x pp) (h1 : cn = nI (sn + 1)) (h2 : ct = nI (sn + 1)) :
    jB pp cn ct (va_up (va_up (va_up r (3 * sn) x) (3 * sn + 1) y) (3 * sn + 2) 0) (va_up a sn x) (va_up b sn y) := by
  refine ⟨sn + 1, by omega, h1, h2, fun k hk => ?_⟩
  by_cases e : k = sn
  · subst e
    rw [up_off _ _ (show 3 * k ≠ 3 * k + 2 by omega), up_off _ _ (show 3 * k ≠ 3 * k + 1 by omega), up_at, up_off _ _ (show 3 * k + 1 ≠ 3 * k + 2 by omega), up_at, up_at, up_at]
    exact ⟨⟨tn x, inr_lt hx, inr_nI hx⟩, rfl, rfl⟩
  · rw [up_off _ _ (show 3 * k ≠ 3 * sn + 2 by omega), up_off _ _ (show 3 * k ≠ 3 * sn + 1 by omega), up_off _ _ (show 3 * k ≠ 3 * sn by omega), up_off _ _ (show 3 * k + 1 ≠ 3 * sn + 2 by omega), up_off _ _ (show 3 * k + 1 ≠ 3 * sn + 1 by omega), up_off _ _ (show 3 * k + 1 ≠ 3 * sn by omega), up_off _ _ e, up_off _ _ e]
    exact h k (by omega)
theorem jP_app {pp sn w : Nat} {cn ct x y y2 : Int32} {r a b : Nat → Int32} (hs : sn ≤ 7) (h : PQ pp r a b sn) (hw : w < 4) (hx : x = nI w) (hy : plnOK pp w y) (hy2 : y2 = if w = 0 then 0 else y) (h1 : cn = nI (sn + 1)) (h2 : ct = nI (sn + 1)) :
    jP pp cn ct (va_up (va_up (va_up r (3 * sn) x) (3 * sn + 1) y) (3 * sn + 2) 0) (va_up a sn x) (va_up b sn y2) := by
  refine ⟨sn + 1, by omega, h1, h2, fun k hk => ?_⟩
  by_cases e : k = sn
  · subst e
    rw [up_off _ _ (show 3 * k ≠ 3 * k + 2 by omega), up_off _ _ (show 3 * k ≠ 3 * k + 1 by omega), up_at, up_off _ _ (show 3 * k + 1 ≠ 3 * k + 2 by omega), up_at, up_at, up_at]
    exact ⟨w, hw, hx, hx, hy, hy2⟩
  · rw [up_off _ _ (show 3 * k ≠ 3 * sn + 2 by omega), up_off _ _ (show 3 * k ≠ 3 * sn + 1 by omega), up_off _ _ (show 3 * k ≠ 3 * sn by omega), up_off _ _ (show 3 * k + 1 ≠ 3 * sn + 2 by omega), up_off _ _ (show 3 * k + 1 ≠ 3 * sn + 1 by omega), up_off _ _ (show 3 * k + 1 ≠ 3 * sn by omega), up_off _ _ e, up_off _ _ e]
    exact h k (by omega)
theorem s_see (h : JX I L R N n) (pz tz cz : Int32) : StpI g yX8_see cX8_see 4 2 0 0 yX9_see cX9_see 4 3 [.int pz, .int tz, .int cz] I L R N n := by
  obtain ⟨na, nt, ni, c, nl, pp, hh, rfl, rfl, rfl, hJ⟩ := h
  obtain ⟨hpp, hpe, _⟩ := JJ_8 hJ
  obtain ⟨sn, hsn, hs0, hs1, hk⟩ := hJ.2.2.2.1.1
  refine ms (c_X8_see pz tz cz pp hpp hpe sn hsn hs0 hJ.2.2.2.2.1.1) (fun kp nt' => ⟨_, _, _, rfl, c_X9_see (I := scC _ kp) pz tz cz pp hpp ?_ sn hsn ?_, pp, hh, ?_⟩)
  · by_cases q0 : pz = -1
    · rw [ifc_t q0]; exact hJ.2.1.2.2.2.1
    rw [ifc_f q0]
    by_cases q : inr pz pp ∧ inr cz 16 ∧ inr tz 13 ∧ sn ≠ 5
    · rw [ifc_t q]; exact hJ.2.1.2.2.2.1
    · rw [ifc_f q]; exact hJ.2.1.2.2.2.1
  · by_cases q0 : pz = -1
    · rw [ifc_t q0]; exact hs1
    rw [ifc_f q0]
    by_cases q : inr pz pp ∧ inr cz 16 ∧ inr tz 13 ∧ sn ≠ 5
    · rw [ifc_t q]; exact hs1
    · rw [ifc_f q]; exact hs1
  · by_cases q0 : pz = -1
    · rw [ifc_t q0, ifc_t q0]
      obtain ⟨h1, h2, h3, ⟨k1, k2, k3⟩, h5, h6, h7, h8, h9⟩ := hJ
      have w : jS pp 0 0 (I 3) (I 89) (I 90) (I 91) ∧ jP pp (I 4 0) (I 65 39) (I 5) (I 92) (I 93) ∧ jB pp (I 6 0) (I 65 40) (I 7) (I 94) (I 95) := ⟨⟨0, by decide, rfl, rfl, fun k hk => absurd hk (Nat.not_lt_zero k)⟩, k2, k3⟩
      exact ⟨jN_keep (I := I) rfl rfl rfl rfl rfl rfl rfl rfl rfl rfl (hi_up (by decide) (hi_scC (hi_up (by decide) (hi_0 I)))) h1, h2, h3, w, h5, h6, h7, jT_keep (I := I) (L := L) rfl rfl (tp_cases ⟨rfl, rfl, rfl, rfl, rfl, rfl⟩) rfl h8, h9⟩
    rw [ifc_f q0, ifc_f q0]
    by_cases q : inr pz pp ∧ inr cz 16 ∧ inr tz 13 ∧ sn ≠ 5
    · rw [ifc_t q, ifc_t q]
      obtain ⟨h1, h2, h3, ⟨k1, k2, k3⟩, h5, h6, h7, h8, h9⟩ := hJ
      have w1 := jS_app (cn := nI (sn + 1)) (ct := nI (sn + 1)) (z := cz) (by have := q.2.2.2; omega) hk q.1 q.2.2.1 rfl rfl
      have w : _ ∧ jP pp (I 4 0) (I 65 39) (I 5) (I 92) (I 93) ∧ jB pp (I 6 0) (I 65 40) (I 7) (I 94) (I 95) := ⟨w1, k2, k3⟩
      exact ⟨jN_keep (I := I) rfl rfl rfl rfl rfl rfl rfl rfl rfl rfl (hi_up (by decide) (hi_up (by decide) (hi_up (by decide) (hi_up (by decide) (hi_scC (hi_up (by decide) (hi_up (by decide) (hi_up (by decide) (hi_up (by decide) (hi_0 I)))))))))) h1, h2, h3, w, h5, h6, h7, jT_keep (I := I) (L := L) rfl rfl (tp_cases ⟨rfl, rfl, rfl, rfl, rfl, rfl⟩) rfl h8, h9⟩
    · rw [ifc_f q, ifc_f q]; exact JJ_scC kp hJ
theorem s_book (h : JX I L R N n) (pz xz : Int32) : StpI g yX8_book cX8_book 3 2 0 0 yX9_book cX9_book 3 3 [.int pz, .int xz] I L R N n := by
  obtain ⟨na, nt, ni, c, nl, pp, hh, rfl, rfl, rfl, hJ⟩ := h
  obtain ⟨hpp, hpe, _⟩ := JJ_8 hJ
  obtain ⟨sn, hsn, hs0, hs1, hk⟩ := hJ.2.2.2.1.2.2
  refine ms (c_X8_book pz xz pp hpp hpe sn hsn hs0 hJ.2.2.2.2.1.2.2.1) (fun kp nt' => ⟨_, _, _, rfl, c_X9_book (I := scC _ kp) pz xz pp hpp ?_ sn hsn ?_, pp, hh, ?_⟩)
  · by_cases q0 : pz = -1
    · rw [ifc_t q0]; exact hJ.2.1.2.2.2.1
    rw [ifc_f q0]
    by_cases q : inr pz pp ∧ inr xz 65536 ∧ sn ≠ 8
    · rw [ifc_t q]; exact hJ.2.1.2.2.2.1
    · rw [ifc_f q]; exact hJ.2.1.2.2.2.1
  · by_cases q0 : pz = -1
    · rw [ifc_t q0]; exact hs1
    rw [ifc_f q0]
    by_cases q : inr pz pp ∧ inr xz 65536 ∧ sn ≠ 8
    · rw [ifc_t q]; exact hs1
    · rw [ifc_f q]; exact hs1
  · by_cases q0 : pz = -1
    · rw [ifc_t q0, ifc_t q0]
      obtain ⟨h1, h2, h3, ⟨k1, k2, k3⟩, h5, h6, h7, h8, h9⟩ := hJ
      have w : jS pp (I 2 0) (I 65 35) (I 3) (I 89) (I 90) (I 91) ∧ jP pp (I 4 0) (I 65 39) (I 5) (I 92) (I 93) ∧ jB pp 0 0 (I 7) (I 94) (I 95) := ⟨k1, k2, ⟨0, by decide, rfl, rfl, fun k hk => absurd hk (Nat.not_lt_zero k)⟩⟩
      exact ⟨jN_keep (I := I) rfl rfl rfl rfl rfl rfl rfl rfl rfl rfl (hi_up (by decide) (hi_scC (hi_up (by decide) (hi_0 I)))) h1, h2, h3, w, h5, h6, h7, jT_keep (I := I) (L := L) rfl rfl (tp_cases ⟨rfl, rfl, rfl, rfl, rfl, rfl⟩) rfl h8, h9⟩
    rw [ifc_f q0, ifc_f q0]
    by_cases q : inr pz pp ∧ inr xz 65536 ∧ sn ≠ 8
    · rw [ifc_t q, ifc_t q]
      obtain ⟨h1, h2, h3, ⟨k1, k2, k3⟩, h5, h6, h7, h8, h9⟩ := hJ
      have w1 := jB_app (cn := nI (sn + 1)) (ct := nI (sn + 1)) (y := xz) (by have := q.2.2; omega) hk q.1 rfl rfl
      have w : jS pp (I 2 0) (I 65 35) (I 3) (I 89) (I 90) (I 91) ∧ jP pp (I 4 0) (I 65 39) (I 5) (I 92) (I 93) ∧ _ := ⟨k1, k2, w1⟩
      exact ⟨jN_keep (I := I) rfl rfl rfl rfl rfl rfl rfl rfl rfl rfl (hi_up (by decide) (hi_up (by decide) (hi_up (by decide) (hi_scC (hi_up (by decide) (hi_up (by decide) (hi_up (by decide) (hi_up (by decide) (hi_0 I))))))))) h1, h2, h3, w, h5, h6, h7, jT_keep (I := I) (L := L) rfl rfl (tp_cases ⟨rfl, rfl, rfl, rfl, rfl, rfl⟩) rfl h8, h9⟩
    · rw [ifc_f q, ifc_f q]; exact JJ_scC kp hJ
end
