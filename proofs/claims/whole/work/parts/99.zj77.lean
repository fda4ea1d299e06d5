theorem fl3_u (i : Nat) : fl3 (i + 1) = va_up (fl3 i) i 3 := by
  funext j
  unfold fl3 va_up
  by_cases h : j = i
  · rw [if_pos h, if_pos (by omega)]
  · rw [if_neg h]
    show (if j < i + 1 then (3 : Int32) else 0) = if j < i then 3 else 0
    by_cases h2 : j < i
    · rw [if_pos h2, if_pos (by omega)]
    · rw [if_neg h2, if_neg (by omega)]
set_option maxRecDepth 100000 in
theorem KI_66 : KI 66 = KI 24 := by
  have e1 : KI 24 = fl3 16 := rfl
  have e2 : KI 66 = va_up (va_up (va_up (va_up (va_up (va_up (va_up (va_up (va_up (va_up (va_up (va_up (va_up (va_up (va_up (va_up Zi 0 3) 1 3) 2 3) 3 3) 4 3) 5 3) 6 3) 7 3) 8 3) 9 3) 10 3) 11 3) 12 3) 13 3) 14 3) 15 3 := rfl
  have e3 : (Zi : Nat → Int32) = fl3 0 := by
    funext j
    unfold fl3
    rw [if_neg (Nat.not_lt_zero j)]; rfl
  rw [e1, e2, e3, ← fl3_u 0, ← fl3_u 1, ← fl3_u 2, ← fl3_u 3, ← fl3_u 4, ← fl3_u 5, ← fl3_u 6, ← fl3_u 7, ← fl3_u 8, ← fl3_u 9, ← fl3_u 10, ← fl3_u 11, ← fl3_u 12, ← fl3_u 13, ← fl3_u 14, ← fl3_u 15]
set_option maxRecDepth 100000 in
theorem KI_N : jN KI (fun _ => 0) 0 0 := ⟨by decide, Nat.le_refl 0, rfl, rfl, rfl, rfl, fun i hi => absurd hi (Nat.not_lt_zero i)⟩
set_option maxRecDepth 100000 in
theorem KI_C : jC KI 0 0 := ⟨by decide, by decide, rfl, rfl, rfl, rfl, rfl, rfl⟩
set_option maxRecDepth 100000 in
theorem KI_W : jW KI := by
  have e70 : KI 70 = gF (KI 28) := by
    have e1 : KI 70 = Zi := rfl
    have e2 : KI 28 = Zi := rfl
    rw [e1, e2]
    funext j
    exact (ifc_f (P := (Zi j) < 0) (by show ¬ (0 : Int32) < 0; decide)).symm
  have e24 : oz 16 (KI 24) := fun j hj => by
    have e1 : KI 24 = fl3 16 := rfl
    rw [e1]; unfold fl3; rw [if_neg (by omega)]
  exact ⟨KI_66, rfl, rfl, rfl, e70, rfl, rfl, rfl, ⟨e24, fun _ _ => rfl, fun _ _ => rfl, fun _ _ => rfl, fun _ _ => rfl, fun _ _ => rfl, fun _ _ => rfl, fun _ _ => rfl⟩, fun p _ => (show inr 0 7 from ⟨by decide, by decide⟩), fun p _ => ⟨0, by decide, rfl⟩, fun p _ => Or.inr ⟨0, by decide, rfl⟩, fun p _ => (show inr 0 65536 from ⟨by decide, by decide⟩), fun p _ => ⟨0, by decide, rfl⟩⟩
set_option maxRecDepth 100000 in
theorem KI_H : jH KI 0 := ⟨⟨0, by decide, rfl, rfl, fun k hk => absurd hk (Nat.not_lt_zero k)⟩, ⟨0, by decide, rfl, rfl, fun k hk => absurd hk (Nat.not_lt_zero k)⟩, ⟨0, by decide, rfl, rfl, fun k hk => absurd hk (Nat.not_lt_zero k)⟩⟩
set_option maxRecDepth 100000 in
theorem KI_82 : LtOK (KI 82) := by
  intro k hk
  have h : k = 0 ∨ k = 1 ∨ k = 2 ∨ k = 3 ∨ k = 4 ∨ k = 5 ∨ k = 6 ∨ k = 7 ∨ k = 8 ∨ k = 9 ∨ k = 10 ∨ k = 11 := by omega
  rcases h with h | h | h | h | h | h | h | h | h | h | h | h <;> subst h <;> rfl
set_option maxRecDepth 100000 in
theorem KI_M : jM KI := ⟨rfl, rfl, rfl, rfl, rfl, rfl, KI_82⟩
set_option maxRecDepth 100000 in
theorem KI_F : jF KI := ⟨0, by decide, rfl, rfl, rfl⟩
set_option maxRecDepth 100000 in
theorem KI_R : jR KI := ⟨0, by decide, rfl, rfl, rfl⟩
set_option maxRecDepth 100000 in
theorem KI_112 : KI 112 = va_up (va_up (va_up (va_up (va_up (va_up Zi 0 (-1)) 1 (-1)) 2 (-1)) 3 (-1)) 4 (-1)) 5 (-1) := rfl
set_option maxRecDepth 100000 in
theorem KI_113 : KI 113 = Zi := rfl
set_option maxRecDepth 100000 in
theorem KL_114 : KL 114 = Zl := rfl
set_option maxRecDepth 100000 in
theorem KI_t0 : KI 53 0 = -1 ∧ KI 53 1 = 0 := ⟨rfl, rfl⟩
set_option maxRecDepth 100000 in
theorem KL_t0 : KL 54 = Zl := rfl
theorem KT_0 : KI 112 0 = KI 53 0 ∧ KI 113 0 = KI 53 1 ∧ (-1 ≤ KI 112 0 ∧ KI 112 0 ≤ 4) ∧ (∃ ln, ln ≤ 60 ∧ KI 113 0 = nI ln ∧ (KI 112 0 < 0 → ln = 0)) ∧ ∀ i, i < 60 → KL 114 (60 * 0 + i) = KL 54 i := by
  rw [KI_112, KI_113, KI_t0.1, KI_t0.2, KL_114, KL_t0]
  exact ⟨rfl, rfl, (show (-1 : Int32) ≤ -1 ∧ (-1 : Int32) ≤ 4 by decide), ⟨0, by decide, rfl, fun _ => rfl⟩, fun _ _ => rfl⟩
set_option maxRecDepth 100000 in
theorem KI_t1 : KI 55 0 = -1 ∧ KI 55 1 = 0 := ⟨rfl, rfl⟩
set_option maxRecDepth 100000 in
theorem KL_t1 : KL 56 = Zl := rfl
theorem KT_1 : KI 112 1 = KI 55 0 ∧ KI 113 1 = KI 55 1 ∧ (-1 ≤ KI 112 1 ∧ KI 112 1 ≤ 4) ∧ (∃ ln, ln ≤ 60 ∧ KI 113 1 = nI ln ∧ (KI 112 1 < 0 → ln = 0)) ∧ ∀ i, i < 60 → KL 114 (60 * 1 + i) = KL 56 i := by
  rw [KI_112, KI_113, KI_t1.1, KI_t1.2, KL_114, KL_t1]
  exact ⟨rfl, rfl, (show (-1 : Int32) ≤ -1 ∧ (-1 : Int32) ≤ 4 by decide), ⟨0, by decide, rfl, fun _ => rfl⟩, fun _ _ => rfl⟩
set_option maxRecDepth 100000 in
theorem KI_t2 : KI 57 0 = -1 ∧ KI 57 1 = 0 := ⟨rfl, rfl⟩
set_option maxRecDepth 100000 in
theorem KL_t2 : KL 58 = Zl := rfl
theorem KT_2 : KI 112 2 = KI 57 0 ∧ KI 113 2 = KI 57 1 ∧ (-1 ≤ KI 112 2 ∧ KI 112 2 ≤ 4) ∧ (∃ ln, ln ≤ 60 ∧ KI 113 2 = nI ln ∧ (KI 112 2 < 0 → ln = 0)) ∧ ∀ i, i < 60 → KL 114 (60 * 2 + i) = KL 58 i := by
  rw [KI_112, KI_113, KI_t2.1, KI_t2.2, KL_114, KL_t2]
  exact ⟨rfl, rfl, (show (-1 : Int32) ≤ -1 ∧ (-1 : Int32) ≤ 4 by decide), ⟨0, by decide, rfl, fun _ => rfl⟩, fun _ _ => rfl⟩
set_option maxRecDepth 100000 in
theorem KI_t3 : KI 59 0 = -1 ∧ KI 59 1 = 0 := ⟨rfl, rfl⟩
set_option maxRecDepth 100000 in
theorem KL_t3 : KL 60 = Zl := rfl
theorem KT_3 : KI 112 3 = KI 59 0 ∧ KI 113 3 = KI 59 1 ∧ (-1 ≤ KI 112 3 ∧ KI 112 3 ≤ 4) ∧ (∃ ln, ln ≤ 60 ∧ KI 113 3 = nI ln ∧ (KI 112 3 < 0 → ln = 0)) ∧ ∀ i, i < 60 → KL 114 (60 * 3 + i) = KL 60 i := by
  rw [KI_112, KI_113, KI_t3.1, KI_t3.2, KL_114, KL_t3]
  exact ⟨rfl, rfl, (show (-1 : Int32) ≤ -1 ∧ (-1 : Int32) ≤ 4 by decide), ⟨0, by decide, rfl, fun _ => rfl⟩, fun _ _ => rfl⟩
set_option maxRecDepth 100000 in
theorem KI_t4 : KI 61 0 = -1 ∧ KI 61 1 = 0 := ⟨rfl, rfl⟩
set_option maxRecDepth 100000 in
theorem KL_t4 : KL 62 = Zl := rfl
theorem KT_4 : KI 112 4 = KI 61 0 ∧ KI 113 4 = KI 61 1 ∧ (-1 ≤ KI 112 4 ∧ KI 112 4 ≤ 4) ∧ (∃ ln, ln ≤ 60 ∧ KI 113 4 = nI ln ∧ (KI 112 4 < 0 → ln = 0)) ∧ ∀ i, i < 60 → KL 114 (60 * 4 + i) = KL 62 i := by
  rw [KI_112, KI_113, KI_t4.1, KI_t4.2, KL_114, KL_t4]
  exact ⟨rfl, rfl, (show (-1 : Int32) ≤ -1 ∧ (-1 : Int32) ≤ 4 by decide), ⟨0, by decide, rfl, fun _ => rfl⟩, fun _ _ => rfl⟩
set_option maxRecDepth 100000 in
theorem KI_t5 : KI 63 0 = -1 ∧ KI 63 1 = 0 := ⟨rfl, rfl⟩
set_option maxRecDepth 100000 in
theorem KL_t5 : KL 64 = Zl := rfl
theorem KT_5 : KI 112 5 = KI 63 0 ∧ KI 113 5 = KI 63 1 ∧ (-1 ≤ KI 112 5 ∧ KI 112 5 ≤ 4) ∧ (∃ ln, ln ≤ 60 ∧ KI 113 5 = nI ln ∧ (KI 112 5 < 0 → ln = 0)) ∧ ∀ i, i < 60 → KL 114 (60 * 5 + i) = KL 64 i := by
  rw [KI_112, KI_113, KI_t5.1, KI_t5.2, KL_114, KL_t5]
  exact ⟨rfl, rfl, (show (-1 : Int32) ≤ -1 ∧ (-1 : Int32) ≤ 4 by decide), ⟨0, by decide, rfl, fun _ => rfl⟩, fun _ _ => rfl⟩
theorem KI_T : jT KI KL := tp_cases (P := fun t => KI 112 t = KI (53 + 2 * t) 0 ∧ KI 113 t = KI (53 + 2 * t) 1 ∧ (-1 ≤ KI 112 t ∧ KI 112 t ≤ 4) ∧ (∃ ln, ln ≤ 60 ∧ KI 113 t = nI ln ∧ (KI 112 t < 0 → ln = 0)) ∧ ∀ i, i < 60 → KL 114 (60 * t + i) = KL (54 + 2 * t) i) ⟨KT_0, KT_1, KT_2, KT_3, KT_4, KT_5⟩
set_option maxRecDepth 100000 in
theorem KI_I : jI KI 0 0 := ⟨⟨fun _ _ => rfl, fun _ _ => rfl, fun _ _ => rfl, fun _ _ => rfl, fun _ _ => rfl, fun _ _ => rfl, fun _ _ => rfl, fun _ _ => rfl⟩, Or.inl ⟨rfl, rfl⟩⟩
theorem JX_0 : JX KI KL (RT 0 0 0) (NT (fun _ => 0)) 116 := ⟨0, 0, 0, 0, fun _ => 0, 0, 0, rfl, rfl, rfl, KI_N, KI_C, KI_W, KI_H, KI_M, KI_F, KI_R, KI_T, KI_I⟩
section
variable {g : Gl} {F : Fx} {b Ln : Nat} {xs : Nat → Int32}
set_option maxRecDepth 100000 in
/-- the law from its entry on -/
theorem law_all (hX : ScrF g F b Ln xs) (hend : ∀ (I2 : Ty) (L2 : TL) (R2 : TR) (N2 : TN) (n2 i2 kr2 sr2 : Nat), V g F cL_law RL 4 100 1295 (lvL g b i2) [] I2 L2 R2 N2 n2 kr2 sr2) : V g F cL_law RL 4 100 0 [(0, .ref b)] [] (fun _ => Zi) (fun _ => Zl) (fun _ => Zr) (fun _ => 0) 0 1144 55467 := by
  refine w_newo nk_L_7 dL_law_0 rfl (by decide) 1 1143 55457 rfl rfl rfl ?_
  refine v_dup dL_law_3 rfl ?_
  refine v_callIv (As := []) (rest := [.ref (g.1 + 0)]) lk_L_9 c_mk0 dL_law_4 rfl rfl (show 1 ≤ 4 by decide) (by decide) 1079 54398 rfl rfl ?_
  refine v_astore_n (lv2 := [(1, .ref (g.1 + 0)), (0, .ref b)]) dL_law_7 rfl (by decide) rfl ?_
  refine w_newo nk_L_10 dL_law_8 rfl (by decide) 66 1078 54325 rfl rfl rfl ?_
  refine v_dup dL_law_11 rfl ?_
  refine v_callIv (As := []) (rest := [.ref (g.1 + 65)]) lk_L_12 c_mk65 dL_law_12 rfl rfl (show 1 ≤ 4 by decide) (by decide) 1028 52428 rfl rfl ?_
  refine v_astore_n (lv2 := [(2, .ref (g.1 + 65)), (1, .ref (g.1 + 0)), (0, .ref b)]) dL_law_15 rfl (by decide) rfl ?_
  refine v_iconst (v := nI 0) dL_law_16 rfl ?_
  refine v_istore_n (lv2 := lvL g b 0) dL_law_17 rfl (by decide) rfl ?_
  refine v_ent (I2 := KI) (L2 := KL) (R2 := RT 0 0 0) (N2 := NT (fun _ => 0)) (en_116s g) ?_
  have hl := hX.2.2
  exact law_loop hX hend 514 0 KI KL (RT 0 0 0) (NT (fun _ => 0)) 116 (by decide) (by omega) JX_0
end
