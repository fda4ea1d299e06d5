section
variable {g : Gl} {I : Ty} {L : TL} {R : TR} {N : TN} {n : Nat}
theorem wr_o {I : Ty} {k j a : Nat} {x : Int32} (h : a ≠ k) : wr I k j x a = I a := up_off _ _ h
theorem wr_i {I : Ty} {k j i : Nat} {x : Int32} (h : i ≠ j) : wr I k j x k i = I k i := (congrFun (up_at I k _) i).trans (up_off _ _ h)
def actF (I F : Ty) : Ty := fun a => if a = 18 then F 18 else if a = 19 then F 19 else if a = 65 then va_up (I 65) 67 (F 65 67) else if a = 111 then F 111 else if 32 ≤ a ∧ a ≤ 42 then F a else I a
theorem actF_e {I F : Ty} (h : ∀ a, a ≠ 18 → a ≠ 19 → a ≠ 65 → a ≠ 111 → ¬ (32 ≤ a ∧ a ≤ 42) → F a = I a) (h65 : ∀ j, j ≠ 67 → F 65 j = I 65 j) : F = actF I F := by
  funext a
  unfold actF
  by_cases c1 : a = 18
  · rw [if_pos c1, c1]
  rw [if_neg c1]
  by_cases c2 : a = 19
  · rw [if_pos c2, c2]
  rw [if_neg c2]
  by_cases c3 : a = 65
  · rw [if_pos c3, c3]
    funext j
    by_cases e : j = 67
    · rw [e, up_at]
    · rw [up_off _ _ e]; exact h65 j e
  rw [if_neg c3]
  by_cases c4 : a = 111
  · rw [if_pos c4, c4]
  rw [if_neg c4]
  by_cases c5 : 32 ≤ a ∧ a ≤ 42
  · rw [if_pos c5]
  rw [if_neg c5]
  exact h a c1 c2 c3 c4 c5
theorem JJ_act {I F : Ty} {L : TL} {nl : Nat → Nat} {na ni c pp hh : Nat} (h : ∀ a, a ≠ 18 → a ≠ 19 → a ≠ 65 → a ≠ 111 → ¬ (32 ≤ a ∧ a ≤ 42) → F a = I a) (h65 : ∀ j, j ≠ 67 → F 65 j = I 65 j) (hR : jR F) (hJ : JJ I L nl na ni c pp hh) : JJ F L nl na ni c pp hh := by
  have e := actF_e h h65
  have hR2 : jR (actF I F) := by rw [← e]; exact hR
  rw [e]
  obtain ⟨h1, h2, h3, h4, h5, h6, h7, h8, h9⟩ := hJ
  refine ⟨jN_keep (I := I) rfl rfl rfl rfl rfl rfl rfl rfl rfl rfl (fun a ha => ?_) h1, h2, h3, h4, h5, h6, hR2, jT_keep (I := I) (L := L) rfl rfl (tp_cases ⟨rfl, rfl, rfl, rfl, rfl, rfl⟩) rfl h8, h9⟩
  unfold actF
  rw [if_neg (by omega), if_neg (by omega), if_neg (by omega), if_neg (by omega), if_neg (by omega)]
theorem ctr_off : ∀ (l : List Int32) (I : Ty) (rn a : Nat), a ≠ 18 → a ≠ 19 → ctr I rn l a = I a
  | [], _, _, _, _, _ => rfl
  | b :: l, I, rn, a, h1, h2 => by rw [ctr, ctr_off l _ _ a h1 h2, cbody_off I rn b a h1 h2]
theorem tr_eq : ∀ (l : List Int32) (I M : Ty) (rn : Nat), M 111 = I 19 → mtr M rn l 111 = ctr I rn l 19
  | [], _, _, _, h => h
  | b :: l, I, M, rn, h => by
    rw [mtr, ctr]
    refine tr_eq l _ _ _ ?_
    unfold mbody cbody
    by_cases q : rn < 20
    · rw [ifc_t q, ifc_t q]
      show va_up (M 111) rn b = va_up (I 19) rn b
      rw [h]
    · rw [ifc_f q, ifc_f q]; exact h
theorem actT_len (k a : Int32) : (actT k a).length < 1000 := by
  have h2 := knT_len k
  have h5 := drT_len k
  have h6 := ttT_len k
  unfold actT
  by_cases c1 : a = 0
  · rw [ifc_t c1]; omega
  rw [ifc_f c1]
  by_cases c2 : a = 1
  · rw [ifc_t c2]; omega
  rw [ifc_f c2]
  unfold teT
  by_cases c3 : k = 3 ∨ k = 6
  · rw [ifc_t c3, List.length_cons, List.length_append]; omega
  rw [ifc_f c3]
  by_cases c4 : k = 5
  · rw [ifc_t c4, List.length_cons]; omega
  · rw [ifc_f c4]; omega
theorem s_act (h : JX I L R N n) (iz az xz : Int32) : StpI g yX8_act cX8_act 4 9 0 0 yX9_act cX9_act 4 8 [.int iz, .int az, .int xz] I L R N n := by
  obtain ⟨na, nt, ni, c, nl, pp, hh, rfl, rfl, rfl, hJ⟩ := h
  obtain ⟨hpp, hpe, _⟩ := JJ_8 hJ
  have e25 : I 67 = I 25 := (JJ_E hJ).2.2.2.2.1
  have e26 : I 68 = I 26 := (JJ_E hJ).2.2.2.2.2.1
  obtain ⟨rn, hr, r0, r1, r2⟩ : jR I := hJ.2.2.2.2.2.2.1
  by_cases q : inr iz pp ∧ inr az 3
  · have hc : ∀ (kp : Ty) (a : Nat), a ≠ 18 → a ≠ 19 → ¬ (32 ≤ a ∧ a ≤ 42) → scC (ctr (bgI (wr I 18 0 0) iz (I 25 (tn iz)) (I 26 (tn iz))) 0 (actT (I 25 (tn iz)) az)) kp a = I a := fun kp a h1 h2 h3 => by
      unfold scC
      rw [if_neg h3, ctr_off _ _ _ a h1 h2]
      unfold bgI
      rw [wr_o h1, wr_o h1, wr_o h1, wr_o h1]
    refine ms (c_X8_act iz az xz pp hpp hpe hJ.2.2.1.2.2.2.2.2.2.2.2.2.1) (fun kp nt' => ⟨_, _, _, ?_, c_X9_act (I := scC _ kp) iz az xz pp hpp ?_, pp, hh, ?_⟩)
    · rw [ifc_t q, ifc_t q, ifc_t q, hc kp 67 (by decide) (by decide) (by decide), hc kp 68 (by decide) (by decide) (by decide), e25, e26]
    · rw [ifc_t q, hc kp 65 (by decide) (by decide) (by decide)]; exact hJ.2.1.2.2.2.1
    · rw [ifc_t q, ifc_t q, hc kp 67 (by decide) (by decide) (by decide), e25]
      have e : ∀ M : Ty, ifc (az = 0) (mtr M 0 (knT (I 25 (tn iz)))) (ifc (az = 1) (mtr M 0 (drT (I 25 (tn iz)))) (mtr M 0 (teT (I 25 (tn iz))))) = mtr M 0 (actT (I 25 (tn iz)) az) := fun M => by
        unfold actT
        by_cases c1 : az = 0
        · rw [ifc_t c1, ifc_t c1]
        rw [ifc_f c1, ifc_f c1]
        by_cases c2 : az = 1
        · rw [ifc_t c2, ifc_t c2]
        · rw [ifc_f c2, ifc_f c2]
      rw [e]
      have hln := actT_len (I 25 (tn iz)) az
      generalize hl : actT (I 25 (tn iz)) az = l at hln hc ⊢
      refine JJ_act (I := I) (fun a h1 h2 h3 h4 h5 => ?_) (fun j hj => ?_) ⟨l.length, hln, ?_, ?_, ?_⟩ hJ
      · rw [mtr_off l _ _ a h3 h4, wr_o h3]; exact hc kp a h1 h2 h5
      · rw [mtr_65 l _ _ j hj, wr_i hj, hc kp 65 (by decide) (by decide) (by decide)]
      · rw [mtr_off l _ _ 18 (by decide) (by decide)]
        show ctr (bgI (wr I 18 0 0) iz (I 25 (tn iz)) (I 26 (tn iz))) 0 l 18 0 = _
        rw [ctr_0 l _ 0 rfl, Nat.zero_add]
      · rw [mtr_ran l _ 0 rfl, Nat.zero_add]
      · rw [mtr_off l _ _ 19 (by decide) (by decide)]
        refine (tr_eq l (bgI (wr I 18 0 0) iz (I 25 (tn iz)) (I 26 (tn iz))) _ 0 ?_).trans rfl
        rw [wr_o (by decide), hc kp 111 (by decide) (by decide) (by decide)]
        exact r2
  · refine ms (c_X8_act iz az xz pp hpp hpe hJ.2.2.1.2.2.2.2.2.2.2.2.2.1) (fun kp nt' => ⟨_, _, _, ?_, c_X9_act (I := scC _ kp) iz az xz pp hpp ?_, pp, hh, ?_⟩)
    · rw [ifc_f q, ifc_f q]
    · rw [ifc_f q]; exact hJ.2.1.2.2.2.1
    · rw [ifc_f q, ifc_f q]
      refine JJ_act (I := I) (fun a h1 h2 h3 h4 h5 => ?_) (fun j hj => ?_) ⟨0, by decide, rfl, rfl, r2⟩ hJ
      · rw [wr_o h3]
        unfold scC
        rw [if_neg h5, wr_o h1]
      · rw [wr_i hj]; rfl
end
