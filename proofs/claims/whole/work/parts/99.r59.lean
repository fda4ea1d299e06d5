/-! what is told alike on both sides, whatever calls were made -/
def oz (n : Nat) (f : Nat → Int32) : Prop := ∀ j, n ≤ j → f j = 0
def jL (ga kd vv sp gl ch no rw ga2 kd2 vv2 sp2 gl2 ch2 no2 rw2 : Nat → Int32) : Prop :=
  ga2 = ga ∧ kd2 = kd ∧ vv2 = vv ∧ sp2 = sp ∧ gl2 = gF gl ∧ ch2 = ch ∧ no2 = no ∧ rw2 = rw ∧
  (oz 16 ga ∧ oz 6 kd ∧ oz 6 vv ∧ oz 6 sp ∧ oz 6 gl ∧ oz 6 ch ∧ oz 6 no ∧ oz 24 rw) ∧
  (∀ p, p < 6 → inr (kd p) 7) ∧ (∀ p, p < 6 → ∃ c, c < 16 ∧ sp p = nI c) ∧ okG gl ∧ ChOK ch ∧ (∀ p, p < 6 → ∃ m, m ≤ 9999 ∧ no p = nI m)
def jS (pp : Nat) (cn ct : Int32) (r a b c : Nat → Int32) : Prop := ∃ sn, sn ≤ 5 ∧ cn = nI sn ∧ ct = nI sn ∧ ∀ k, k < sn → (∃ w, w < pp ∧ r (3 * k) = nI w) ∧ (∃ t, t ≤ 12 ∧ r (3 * k + 1) = nI t) ∧ a k = r (3 * k) ∧ b k = r (3 * k + 1) ∧ c k = r (3 * k + 2)
def jP (pp : Nat) (cn ct : Int32) (r a b : Nat → Int32) : Prop := ∃ pn, pn ≤ 8 ∧ cn = nI pn ∧ ct = nI pn ∧ PQ pp r a b pn
def jB (pp : Nat) (cn ct : Int32) (r a b : Nat → Int32) : Prop := ∃ bn, bn ≤ 8 ∧ cn = nI bn ∧ ct = nI bn ∧ ∀ k, k < bn → (∃ w, w < pp ∧ r (3 * k) = nI w) ∧ a k = r (3 * k) ∧ b k = r (3 * k + 1)
def jH (I : Ty) (pp : Nat) : Prop := jS pp (I 2 0) (I 65 35) (I 3) (I 89) (I 90) (I 91) ∧ jP pp (I 4 0) (I 65 39) (I 5) (I 92) (I 93) ∧ jB pp (I 6 0) (I 65 40) (I 7) (I 94) (I 95)
def jG (I : Ty) (pp : Nat) : Prop := jS pp (I 9 0) (I 65 49) (I 10) (I 104) (I 105) (I 106) ∧ jP pp (I 11 0) (I 65 50) (I 12) (I 107) (I 108) ∧ jB pp (I 13 0) (I 65 51) (I 14) (I 109) (I 110)
def jN (I : Ty) (nl : Nat → Nat) (na c : Nat) : Prop := c ≤ 6 ∧ na ≤ c ∧ I 65 11 = theV na ∧ I 0 7 = nI c ∧ I 65 10 = nI c ∧ I 21 0 = 0 ∧ ∀ i, i < c → NaR I nl i
def jC (I : Ty) (pp hh : Nat) : Prop := pp ≤ 6 ∧ hh ≤ 9999 ∧ I 23 1 = nI pp ∧ I 65 0 = nI pp ∧ I 23 9 = nI hh ∧ I 65 1 = nI hh ∧ I 23 11 = 63 ∧ I 65 29 = 9999
def jW (I : Ty) : Prop := jL (I 24) (I 25) (I 26) (I 27) (I 28) (I 29) (I 30) (I 31) (I 66) (I 67) (I 68) (I 69) (I 70) (I 71) (I 72) (I 73)
def jV (I : Ty) : Prop := jL (I 44) (I 45) (I 46) (I 47) (I 48) (I 49) (I 50) (I 51) (I 96) (I 97) (I 98) (I 99) (I 100) (I 101) (I 102) (I 103)
def jM (I : Ty) : Prop := I 2 1 = nI 5 ∧ I 4 1 = nI 8 ∧ I 6 1 = nI 8 ∧ I 9 1 = nI 5 ∧ I 11 1 = nI 8 ∧ I 13 1 = nI 8 ∧ LtOK (I 82)
def jF (I : Ty) : Prop := ∃ fd, fd ≤ 100 ∧ I 15 0 = nI fd ∧ I 65 12 = nI fd ∧ I 74 = I 16
def jR (I : Ty) : Prop := ∃ rn, rn < 1000 ∧ I 18 0 = nI rn ∧ I 65 67 = nI rn ∧ I 111 = I 19
def jT (I : Ty) (L : TL) : Prop := ∀ t, t < 6 → I 112 t = I (53 + 2 * t) 0 ∧ I 113 t = I (53 + 2 * t) 1 ∧ (-1 ≤ I 112 t ∧ I 112 t ≤ 4) ∧ (∃ ln, ln ≤ 60 ∧ I 113 t = nI ln ∧ (I 112 t < 0 → ln = 0)) ∧ ∀ i, i < 60 → L 114 (60 * t + i) = L (54 + 2 * t) i
def jO (I : Ty) : Prop := oz 16 (I 96) ∧ oz 6 (I 97) ∧ oz 6 (I 98) ∧ oz 6 (I 99) ∧ oz 6 (I 100) ∧ oz 6 (I 101) ∧ oz 6 (I 102) ∧ oz 24 (I 103)
def jI (I : Ty) (ni c : Nat) : Prop := jO I ∧ ((I 0 5 = 0 ∧ I 65 45 = 0) ∨ (I 0 5 = 1 ∧ I 65 45 = 1 ∧ ni ≤ c ∧ I 65 46 = theV ni ∧ ∃ pq hq, pq ≤ 6 ∧ hq ≤ 9999 ∧ I 43 1 = nI pq ∧ I 65 47 = nI pq ∧ I 43 9 = nI hq ∧ I 65 48 = nI hq ∧ jV I ∧ jG I pq))
def JJ (I : Ty) (L : TL) (nl : Nat → Nat) (na ni c pp hh : Nat) : Prop := jN I nl na c ∧ jC I pp hh ∧ jW I ∧ jH I pp ∧ jM I ∧ jF I ∧ jR I ∧ jT I L ∧ jI I ni c
/-- the law's invariant -/
def JX (I : Ty) (L : TL) (R : TR) (N : TN) (n : Nat) : Prop := ∃ (na nt ni c : Nat) (nl : Nat → Nat) (pp hh : Nat), R = RT na nt ni ∧ N = NT nl ∧ n = NB + 2 * c ∧ JJ I L nl na ni c pp hh
def hiE (I' I : Ty) : Prop := ∀ a, 116 ≤ a → I' a = I a
theorem hi_0 (I : Ty) : hiE I I := fun _ _ => rfl
theorem hi_up {I' I : Ty} {k : Nat} {f : Nat → Int32} (hk : k < 116) (h : hiE I' I) : hiE (va_up I' k f) I := fun a q => (up_off _ _ (by omega)).trans (h a q)
theorem hi_scC {I' I : Ty} {kp : Ty} (h : hiE I' I) : hiE (scC I' kp) I := fun a q => by
  unfold scC; rw [if_neg (by omega)]; exact h a q
theorem hi_sck {I' I : Ty} {kp : Ty} {kh : Int32} (h : hiE I' I) : hiE (sck I' kp kh) I := fun a q => by
  unfold sck; rw [if_neg (by omega), if_neg (by omega)]; exact h a q
theorem hi_t {I1 I2 I3 : Ty} (h : hiE I1 I2) (h2 : hiE I2 I3) : hiE I1 I3 := fun a q => (h a q).trans (h2 a q)
theorem NaR_keep {I' I : Ty} {nl : Nat → Nat} {i : Nat} (h75 : I' 75 = I 75) (h76 : I' 76 = I 76) (h77 : I' 77 = I 77) (h78 : I' 78 = I 78) (h79 : I' 79 = I 79) (h80 : I' 80 = I 80) (hh : hiE I' I) (h : NaR I nl i) : NaR I' nl i := by
  obtain ⟨l, h1, h2, h3, h4, h5, h6, h7, h8, h9, h10⟩ := h
  refine ⟨l, h1, h2, by rw [h75]; exact h3, enc_keep l _ _ (fun j _ _ => by rw [h76, h77, h78, h79]; exact ⟨rfl, rfl, rfl, rfl⟩) h4, h5, by rw [h80]; exact h6, h7, h8, ?_, ?_⟩
  · rw [hh _ (by show 116 ≤ 116 + 2 * i; omega)]; exact h9
  · rw [hh _ (by show 116 ≤ 116 + 2 * i + 1; omega)]; exact h10
theorem jN_keep {I' I : Ty} {nl : Nat → Nat} {na c : Nat} (h11 : I' 65 11 = I 65 11) (h7 : I' 0 7 = I 0 7) (h10 : I' 65 10 = I 65 10) (h21 : I' 21 0 = I 21 0) (h75 : I' 75 = I 75) (h76 : I' 76 = I 76) (h77 : I' 77 = I 77) (h78 : I' 78 = I 78) (h79 : I' 79 = I 79) (h80 : I' 80 = I 80) (hh : hiE I' I) (h : jN I nl na c) : jN I' nl na c := by
  obtain ⟨a, b, c, d, e, f, k⟩ := h
  exact ⟨a, b, h11.trans c, h7.trans d, h10.trans e, h21.trans f, fun i hi => NaR_keep h75 h76 h77 h78 h79 h80 hh (k i hi)⟩
theorem jT_keep {I' I : Ty} {L' L : TL} (h1 : I' 112 = I 112) (h2 : I' 113 = I 113) (h3 : ∀ t, t < 6 → I' (53 + 2 * t) = I (53 + 2 * t)) (h4 : L' = L) (h : jT I L) : jT I' L' := by
  intro t ht
  rw [h1, h2, h3 t ht, h4]
  exact h t ht
theorem JJ_scC {I : Ty} {L : TL} {nl : Nat → Nat} {na ni c pp hh : Nat} (kp : Ty) (h : JJ I L nl na ni c pp hh) : JJ (scC I kp) L nl na ni c pp hh := by
  obtain ⟨h1, h2, h3, h4, h5, h6, h7, h8, h9⟩ := h
  exact ⟨jN_keep (I := I) rfl rfl rfl rfl rfl rfl rfl rfl rfl rfl (hi_scC (hi_0 I)) h1, h2, h3, h4, h5, h6, h7, jT_keep (I := I) (L := L) rfl rfl (tp_cases ⟨rfl, rfl, rfl, rfl, rfl, rfl⟩) rfl h8, h9⟩
theorem JJ_sck {I : Ty} {L : TL} {nl : Nat → Nat} {na ni c pp hh : Nat} (kp : Ty) (kh : Int32) (h : JJ I L nl na ni c pp hh) : JJ (sck I kp kh) L nl na ni c pp hh := by
  obtain ⟨h1, h2, h3, h4, h5, h6, h7, h8, h9⟩ := h
  exact ⟨jN_keep (I := I) rfl rfl rfl rfl rfl rfl rfl rfl rfl rfl (hi_sck (hi_0 I)) h1, h2, h3, h4, h5, h6, h7, jT_keep (I := I) (L := L) rfl rfl (tp_cases ⟨rfl, rfl, rfl, rfl, rfl, rfl⟩) rfl h8, h9⟩
theorem JJ_scr {I : Ty} {L : TL} {nl : Nat → Nat} {na ni c pp hh : Nat} (f g : Nat → Int32) (h : JJ I L nl na ni c pp hh) : JJ (scr I f g) L nl na ni c pp hh := by
  rw [scr_sck]; exact JJ_sck _ _ h
/-- what the contracts ask -/
theorem JJ_E {I : Ty} {L : TL} {nl : Nat → Nat} {na ni c pp hh : Nat} (h : JJ I L nl na ni c pp hh) : sln nl na ≤ 100 ∧ okSt (I (scell na)) (sln nl na) ∧ mOK I ∧ EQ I I nl na := by
  obtain ⟨⟨a1, a2, a3, a4, a5, a6, a7⟩, b, w, _⟩ := h
  obtain ⟨q1, q2, q3, q4, q5⟩ := hold_ok a1 a2 a6 a3 a7
  obtain ⟨w1, w2, w3, w4, w5, w6, w7, w8, _⟩ := w
  exact ⟨q1, q2, q3, w1, w2, w3, w4, w5, w6, w7, w8, b.2.2.2.2.2.1.trans b.2.2.2.2.1.symm, q4, q5⟩
