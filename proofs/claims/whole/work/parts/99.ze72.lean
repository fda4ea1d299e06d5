section
variable {g : Gl} {I : Ty} {L : TL} {R : TR} {N : TN} {n : Nat}
def natF (I F : Ty) : Ty := fun a => if a = 15 then F 15 else if a = 17 then F 17 else if 75 ≤ a ∧ a ≤ 81 then F a else if a = 0 then va_up (I 0) 7 (F 0 7) else if a = 65 then (fun j => if 10 ≤ j ∧ j ≤ 14 ∨ 23 ≤ j ∧ j ≤ 25 then F 65 j else I 65 j) else if 116 ≤ a then F a else I a
theorem natF_e {I F : Ty} (h : ∀ a, a ≠ 15 → a ≠ 17 → ¬ (75 ≤ a ∧ a ≤ 81) → a ≠ 0 → a ≠ 65 → a < 116 → F a = I a) (h0 : ∀ j, j ≠ 7 → F 0 j = I 0 j) (h65 : ∀ j, ¬ (10 ≤ j ∧ j ≤ 14 ∨ 23 ≤ j ∧ j ≤ 25) → F 65 j = I 65 j) : F = natF I F := by
  funext a
  unfold natF
  by_cases c1 : a = 15
  · rw [if_pos c1, c1]
  rw [if_neg c1]
  by_cases c2 : a = 17
  · rw [if_pos c2, c2]
  rw [if_neg c2]
  by_cases c3 : 75 ≤ a ∧ a ≤ 81
  · rw [if_pos c3]
  rw [if_neg c3]
  by_cases c4 : a = 0
  · rw [if_pos c4, c4]
    funext j
    by_cases e : j = 7
    · rw [e, up_at]
    · rw [up_off _ _ e]; exact h0 j e
  rw [if_neg c4]
  by_cases c5 : a = 65
  · rw [if_pos c5, c5]
    funext j
    by_cases e : 10 ≤ j ∧ j ≤ 14 ∨ 23 ≤ j ∧ j ≤ 25
    · rw [if_pos e]
    · rw [if_neg e]; exact h65 j e
  rw [if_neg c5]
  by_cases c6 : 116 ≤ a
  · rw [if_pos c6]
  rw [if_neg c6]
  exact h a c1 c2 c3 c4 c5 (by omega)
theorem JJ_nat {I F : Ty} {L : TL} {nl nl2 : Nat → Nat} {na na2 ni c c2 pp hh : Nat} (hF : F = natF I F) (hN : jN F nl2 na2 c2) (h15 : F 15 0 = 0) (h12 : F 65 12 = 0) (hc : c ≤ c2) (hJ : JJ I L nl na ni c pp hh) : JJ F L nl2 na2 ni c2 pp hh := by
  have hN2 : jN (natF I F) nl2 na2 c2 := by rw [← hF]; exact hN
  rw [hF]
  obtain ⟨h1, h2, h3, h4, h5, ⟨fd, _, _, _, hf⟩, h7, h8, ⟨o, h9⟩⟩ := hJ
  refine ⟨hN2, h2, h3, h4, h5, ⟨0, by decide, h15, h12, hf⟩, h7, jT_keep (I := I) (L := L) rfl rfl (tp_cases ⟨rfl, rfl, rfl, rfl, rfl, rfl⟩) rfl h8, o, ?_⟩
  rcases h9 with h9 | ⟨a1, a2, a3, a4⟩
  · exact Or.inl h9
  · exact Or.inr ⟨a1, a2, Nat.le_trans a3 hc, a4⟩
theorem NaR_old {I F : Ty} {nl nl2 : Nat → Nat} {c i : Nat} (hi : i < c) (h75 : F 75 i = I 75 i) (h76 : ∀ j, j < 10 * c → F 76 j = I 76 j ∧ F 77 j = I 77 j ∧ F 78 j = I 78 j ∧ F 79 j = I 79 j) (h80 : ∀ j, j < 100 * c → F 80 j = I 80 j) (hnl : nl2 i = nl i) (hS : F (NB + 2 * i) = I (NB + 2 * i)) (hS1 : F (NB + 2 * i + 1) = I (NB + 2 * i + 1)) (h : NaR I nl i) : NaR F nl2 i := by
  obtain ⟨l, h1, h2, h3, h4, h5, h6, h7, h8, h9, h10⟩ := h
  refine ⟨l, h1, h2, h75.trans h3, enc_keep l _ _ (fun j _ b => h76 j (by omega)) h4, h5, atL_keep _ _ (fun j _ b => h80 j (by rw [List.length_map] at b; omega)) h6, hnl.trans h7, h8, ?_, ?_⟩
  · rw [hS]; exact h9
  · rw [hS1]; exact h10
theorem pI_o {B : Ty} {a dg sg wt op : Int32} {sn ws : Nat → Int32} {x : Nat} (h1 : x ≠ 65) (h2 : x ≠ 80) (h3 : x ≠ 81) : pI B a dg sg wt op sn ws x = B x := by
  unfold pI; rw [if_neg h1, if_neg h2, if_neg h3]
theorem pI_i {B : Ty} {a dg sg wt op : Int32} {sn ws : Nat → Int32} {j : Nat} (h : ¬ (13 ≤ j ∧ j ≤ 14 ∨ 23 ≤ j ∧ j ≤ 25)) : pI B a dg sg wt op sn ws 65 j = B 65 j := by
  show (if j = 13 then a else if j = 14 then dg else if j = 23 then sg else if j = 24 then wt else if j = 25 then op else B 65 j) = _
  rw [if_neg (by omega), if_neg (by omega), if_neg (by omega), if_neg (by omega), if_neg (by omega)]
theorem rI_o {I : Ty} {a sc nu fa : Int32} {st : Nat → Int32} {x : Nat} (h1 : x ≠ 15) (h2 : x ≠ 17) : rI I a sc nu fa st x = I x := by
  unfold rI; rw [if_neg h1, if_neg h2]
theorem natI_o {I : Ty} {c s a : Nat} (h : a < 116 + 2 * c) : natI I c s a = I a := by
  unfold natI
  have e : NB = 116 := rfl
  rw [up_off _ _ (by omega), up_off _ _ (by omega)]
theorem natI_o2 {I : Ty} {c s a : Nat} (h : 116 + 2 * c + 1 < a) : natI I c s a = I a := by
  unfold natI
  have e : NB = 116 := rfl
  rw [up_off _ _ (by omega), up_off _ _ (by omega)]
theorem s_nation (h : JX I L R N n) : StpI g yX8_nation cX8_nation 2 18 2 102 yX9_nation cX9_nation 2 8 [] I L R N n := by
  obtain ⟨na, nt, ni, c, nl, pp, hh, rfl, rfl, rfl, hJ⟩ := h
  obtain ⟨hc6, hna, h11, h07, h10, h21, hNa⟩ := hJ.1
  have eNB : NB = 116 := rfl
  by_cases hc : c = 6
  · subst hc
    refine ⟨_, c_nation8f (m := 2 * 6) h07, fun v I1 L1 R1 N1 n1 hp => ?_⟩
    obtain ⟨rfl, rfl, rfl, rfl, rfl, rfl⟩ := hp
    refine ⟨Nat.le_add_right _ _, _, rfl, _, c_nation6 h10, fun v2 I2 L2 R2 N2 n2 hq => ?_⟩
    obtain ⟨rfl, rfl, rfl, rfl, rfl, rfl⟩ := hq
    exact ⟨rfl, JJ_X hJ nt⟩
  have hc6 : c < 6 := by omega
  obtain ⟨fd, hf, hfd, hfd2, h74⟩ : jF I := hJ.2.2.2.2.2.1
  have hLt : LtOK (I 82) := hJ.2.2.2.2.1.2.2.2.2.2.2
  refine ⟨_, c_nation8 hc6 h07 fd hf hfd (I 16) rfl (I 82) hLt, fun v I1 L1 R1 N1 n1 hp => ?_⟩
  obtain ⟨rfl, hp⟩ := hp
  rcases hp with ⟨hz, rfl, ⟨s2, n2, f2, t2, rfl⟩, rfl, rfl, rfl⟩ | ⟨l, n2, hz, rfl, rfl, hsl, rfl, rfl, rfl⟩
  · refine ⟨Nat.le_add_right _ _, _, rfl, _, c_nation1 (I := wr (rI I (nI (txR (I 16) (I 82) fd 10 0 []).1) (nI s2) n2 f2 t2) 15 0 0) c hc6 h10 fd hf hfd2 (I 16) h74 (I 82) rfl, fun v2 I2 L2 R2 N2 n2 hq => ?_⟩
    obtain ⟨rfl, ⟨dg, sg, wt, op, sn, ws, B, rfl, ⟨hB1, hB2, hB3⟩, hsn, _⟩, rfl, rfl, rfl, rfl⟩ := hq
    have hns : ¬ (txR (I 16) (I 82) fd 10 0 []).2.isSome = true := by rw [hz]; decide
    rw [ifc_f hns, ifc_f hns]
    refine ⟨rfl, na, nt, ni, c, nl, pp, hh, rfl, rfl, rfl, ?_⟩
    generalize nI (txR (I 16) (I 82) fd 10 0 []).1 = za at *
    have hoff : ∀ a, a ≠ 15 → a ≠ 17 → ¬ (75 ≤ a ∧ a ≤ 81) → a ≠ 65 → wr (pI B za dg (nI sg) (nI wt) op sn ws) 65 12 0 a = I a := fun a a1 a2 a3 a4 => by
      rw [wr_o a4, pI_o a4 (by omega) (by omega), hB1 a (by omega) (by omega) (by omega) (by omega) (by omega), wr_o a1, rI_o a1 a2]
    have h65 : ∀ j, ¬ (12 ≤ j ∧ j ≤ 14 ∨ 23 ≤ j ∧ j ≤ 25) → wr (pI B za dg (nI sg) (nI wt) op sn ws) 65 12 0 65 j = I 65 j := fun j hj => by
      rw [wr_i (by omega), pI_i (by omega), hB1 65 (by decide) (by decide) (by decide) (by decide) (by decide), wr_o (by decide), rI_o (by decide) (by decide)]
    have hrow : ∀ a, 75 ≤ a → a ≤ 79 → wr (pI B za dg (nI sg) (nI wt) op sn ws) 65 12 0 a = B a := fun a a1 a2 => by
      rw [wr_o (by omega), pI_o (by omega) (by omega) (by omega)]
    have hMr : ∀ a, 75 ≤ a → a ≤ 80 → wr (rI I za (nI s2) n2 f2 t2) 15 0 0 a = I a := fun a a1 a2 => by
      rw [wr_o (by omega), rI_o (by omega) (by omega)]
    refine JJ_nat (natF_e (fun a a1 a2 a3 a4 a5 _ => hoff a a1 a2 a3 a5) (fun j _ => by rw [hoff 0 (by decide) (by decide) (by decide) (by decide)]) (fun j hj => h65 j (by omega))) ⟨Nat.le_of_lt hc6, hna, ?_, ?_, ?_, ?_, fun i hi => ?_⟩ ?_ wr_at (Nat.le_refl _) hJ
    · rw [h65 11 (by decide)]; exact h11
    · rw [hoff 0 (by decide) (by decide) (by decide) (by decide)]; exact h07
    · rw [h65 10 (by decide)]; exact h10
    · rw [hoff 21 (by decide) (by decide) (by decide) (by decide)]; exact h21
    · refine NaR_old hi ?_ (fun j hj => ?_) (fun j hj => ?_) rfl (hoff _ (by omega) (by omega) (by omega) (by omega)) (hoff _ (by omega) (by omega) (by omega) (by omega)) (hNa i hi)
      · rw [hrow 75 (by decide) (by decide), hB3 i (by omega), hMr 75 (by decide) (by decide)]
      · obtain ⟨b1, b2, b3, b4⟩ := hB2 j hj
        rw [hrow 76 (by decide) (by decide), hrow 77 (by decide) (by decide), hrow 78 (by decide) (by decide), hrow 79 (by decide) (by decide), b1, b2, b3, b4, hMr 76 (by decide) (by decide), hMr 77 (by decide) (by decide), hMr 78 (by decide) (by decide), hMr 79 (by decide) (by decide)]
        exact ⟨rfl, rfl, rfl, rfl⟩
      · show sn j = _
        rw [hsn j hj, hMr 80 (by decide) (by decide)]
    · rw [wr_o (by decide), pI_o (by decide) (by decide) (by decide), hB1 15 (by decide) (by decide) (by decide) (by decide) (by decide)]
      exact wr_at
  · have e2 : NB + 2 * c + 2 = NB + (2 * c + 2) := by omega
    rw [e2]
    have hMo : ∀ a, a ≠ 15 → a ≠ 17 → a ≠ 0 → a < 116 + 2 * c → wr (natI (wr (rI I (nI (txR (I 16) (I 82) fd 10 0 []).1) (nI (stps l).length) n2 (fdC 0 l) (putL (I 17) 0 (stps l))) 15 0 0) c (stps l).length) 0 7 (nI (c + 1)) a = I a := fun a a1 a2 a3 a4 => by
      rw [wr_o a3, natI_o a4, wr_o a1, rI_o a1 a2]
    refine ⟨Nat.le_add_right _ _, _, rfl, _, c_nation1 (I := wr (natI (wr (rI I (nI (txR (I 16) (I 82) fd 10 0 []).1) (nI (stps l).length) n2 (fdC 0 l) (putL (I 17) 0 (stps l))) 15 0 0) c (stps l).length) 0 7 (nI (c + 1))) c hc6 (by rw [hMo 65 (by decide) (by decide) (by decide) (by omega)]; exact h10) fd hf (by rw [hMo 65 (by decide) (by decide) (by decide) (by omega)]; exact hfd2) (I 16) (by rw [hMo 74 (by decide) (by decide) (by decide) (by omega)]; exact h74) (I 82) (hMo 82 (by decide) (by decide) (by decide) (by omega)), fun v2 I2 L2 R2 N2 n2' hq => ?_⟩
    obtain ⟨rfl, ⟨dg, sg, wt, op, sn, ws, B, rfl, ⟨hB1, hB2, hB3⟩, hsn, hl9⟩, rfl, rfl, rfl, rfl⟩ := hq
    have hns : (txR (I 16) (I 82) fd 10 0 []).2.isSome = true := by rw [hz]; rfl
    obtain ⟨l1, l2, l3, l4, l5, l6⟩ := hl9 l hz
    have hG : ∀ x, x ∈ l → clG x := txR_G hf 10 0 [] l (fun x h => by cases h) hz
    rw [ifc_t hns, ifc_t hns]
    refine ⟨rfl, c + 1, nt, ni, c + 1, va_up nl c (stps l).length, pp, hh, rfl, rfl, by omega, ?_⟩
    generalize nI (txR (I 16) (I 82) fd 10 0 []).1 = za at *
    have hMF : ∀ a, ¬ (75 ≤ a ∧ a ≤ 81) → a ≠ 65 → wr (wr (wr (pI B za dg (nI sg) (nI wt) op sn ws) 65 12 0) 65 11 (nI c)) 65 10 (nI (c + 1)) a = wr (natI (wr (rI I za (nI (stps l).length) n2 (fdC 0 l) (putL (I 17) 0 (stps l))) 15 0 0) c (stps l).length) 0 7 (nI (c + 1)) a := fun a a3 a4 => by
      rw [wr_o a4, wr_o a4, wr_o a4, pI_o a4 (by omega) (by omega), hB1 a (by omega) (by omega) (by omega) (by omega) (by omega)]
    have hoff : ∀ a, a ≠ 15 → a ≠ 17 → ¬ (75 ≤ a ∧ a ≤ 81) → a ≠ 65 → a ≠ 0 → a < 116 + 2 * c → wr (wr (wr (pI B za dg (nI sg) (nI wt) op sn ws) 65 12 0) 65 11 (nI c)) 65 10 (nI (c + 1)) a = I a := fun a a1 a2 a3 a4 a5 a6 => by
      rw [hMF a a3 a4, hMo a a1 a2 a5 a6]
    have h65 : ∀ j, ¬ (10 ≤ j ∧ j ≤ 14 ∨ 23 ≤ j ∧ j ≤ 25) → wr (wr (wr (pI B za dg (nI sg) (nI wt) op sn ws) 65 12 0) 65 11 (nI c)) 65 10 (nI (c + 1)) 65 j = I 65 j := fun j hj => by
      rw [wr_i (by omega), wr_i (by omega), wr_i (by omega), pI_i (by omega), hB1 65 (by decide) (by decide) (by decide) (by decide) (by decide), hMo 65 (by decide) (by decide) (by decide) (by omega)]
    have hrow : ∀ a, 75 ≤ a → a ≤ 79 → wr (wr (wr (pI B za dg (nI sg) (nI wt) op sn ws) 65 12 0) 65 11 (nI c)) 65 10 (nI (c + 1)) a = B a := fun a a1 a2 => by
      rw [wr_o (by omega), wr_o (by omega), wr_o (by omega), pI_o (by omega) (by omega) (by omega)]
    have hMr : ∀ a, 75 ≤ a → a ≤ 80 → wr (natI (wr (rI I za (nI (stps l).length) n2 (fdC 0 l) (putL (I 17) 0 (stps l))) 15 0 0) c (stps l).length) 0 7 (nI (c + 1)) a = I a := fun a a1 a2 => hMo a (by omega) (by omega) (by omega) (by omega)
    refine JJ_nat (natF_e (fun a a1 a2 a3 a4 a5 a6 => hoff a a1 a2 a3 a5 a4 (by omega)) (fun j hj => ?_) h65) ⟨hc6, Nat.le_refl _, ?_, ?_, wr_at, ?_, fun i hi => ?_⟩ ?_ ?_ (Nat.le_succ c) hJ
    · rw [hMF 0 (by decide) (by decide), wr_i hj, natI_o (by omega), wr_o (by decide), rI_o (by decide) (by decide)]
    · rw [wr_i (by decide)]
      exact wr_at
    · rw [hMF 0 (by decide) (by decide)]; exact wr_at
    · rw [hoff 21 (by decide) (by decide) (by decide) (by decide) (by decide) (by omega)]; exact h21
    · by_cases e : i = c
      · subst e
        refine ⟨l, hG, l1, ?_, enc_keep l _ _ (fun j _ _ => ?_) l4, l6, ?_, up_at _ _ _, hsl, ?_, ?_⟩
        · rw [hrow 75 (by decide) (by decide)]; exact l3
        · rw [hrow 76 (by decide) (by decide), hrow 77 (by decide) (by decide), hrow 78 (by decide) (by decide), hrow 79 (by decide) (by decide)]
          exact ⟨rfl, rfl, rfl, rfl⟩
        · show atL sn _ _
          rw [l5]; exact atL_put _ _ _
        · rw [hMF _ (by omega) (by omega), wr_o (by omega)]
          unfold natI
          rw [up_off _ _ (by omega), up_at]
          refine atL_keep _ 0 (fun j _ b => ?_) (atL_put (stps l) (I 17) 0)
          exact ifc_t (by omega)
        · rw [hMF _ (by omega) (by omega), wr_o (by omega)]
          unfold natI
          rw [up_at]
          rfl
      · have hi : i < c := by omega
        refine NaR_old hi ?_ (fun j hj => ?_) (fun j hj => ?_) (up_off _ _ e) (hoff _ (by omega) (by omega) (by omega) (by omega) (by omega) (by omega)) (hoff _ (by omega) (by omega) (by omega) (by omega) (by omega) (by omega)) (hNa i hi)
        · rw [hrow 75 (by decide) (by decide), hB3 i (by omega), hMr 75 (by decide) (by decide)]
        · obtain ⟨b1, b2, b3, b4⟩ := hB2 j hj
          rw [hrow 76 (by decide) (by decide), hrow 77 (by decide) (by decide), hrow 78 (by decide) (by decide), hrow 79 (by decide) (by decide), b1, b2, b3, b4, hMr 76 (by decide) (by decide), hMr 77 (by decide) (by decide), hMr 78 (by decide) (by decide), hMr 79 (by decide) (by decide)]
          exact ⟨rfl, rfl, rfl, rfl⟩
        · show sn j = _
          rw [hsn j hj, hMr 80 (by decide) (by decide)]
    · rw [hMF 15 (by decide) (by decide), wr_o (by decide), natI_o (by omega)]
      exact wr_at
    · rw [wr_i (by decide), wr_i (by decide)]
      exact wr_at
end
