section
variable {g : Gl} {F : Fx} {I : Ty} {L : TL} {R : TR} {N : TN} {n kr sr b Ln i : Nat} {xs : Nat → Int32}
theorem and63 (x : Int32) : ∃ m, m < 64 ∧ x &&& 63 = nI m := ⟨x.toBitVec.toNat % 64, Nat.mod_lt _ (by decide), pk_and x (m := 63) 6 rfl⟩
theorem law_step (hX : ScrF g F b Ln xs) (hi : i + 6 ≤ Ln) (hJ : JX I L R N n) (kk : ∀ (I2 : Ty) (L2 : TL) (R2 : TR) (N2 : TN) (n2 : Nat), JX I2 L2 R2 N2 n2 → V g F cL_law RL 4 100 1289 (lvL g b i) [] I2 L2 R2 N2 n2 kr sr) : V g F cL_law RL 4 100 27 (lvL g b i) [] I L R N n (kr + 2) (sr + 102) := by
  refine v_aload_n dL_law_27 rfl 3 rfl ?_
  refine v_iload_n dL_law_28 rfl 0 rfl ?_
  refine v_sread (j := i) hX dL_law_29 rfl (by omega) ?_
  refine v_bipush (v := 63) dL_law_30 (by decide) ?_
  refine v_iand dL_law_32 ?_
  obtain ⟨mz, hm, em⟩ := and63 (xs i)
  refine v_is em ?_
  by_cases h0 : mz = 0
  · subst h0
    exact v_tabIn (off := 151) (tgt := 184) dL_law_33 (by decide) (by decide) (by decide) (by decide) (law_0 hX hi hJ kk)
  by_cases h1 : mz = 1
  · subst h1
    exact v_tabIn (off := 194) (tgt := 227) dL_law_33 (by decide) (by decide) (by decide) (by decide) (law_1 hX hi hJ kk)
  by_cases h2 : mz = 2
  · subst h2
    exact v_tabIn (off := 227) (tgt := 260) dL_law_33 (by decide) (by decide) (by decide) (by decide) (law_2 hX hi hJ kk)
  by_cases h3 : mz = 3
  · subst h3
    exact v_tabIn (off := 260) (tgt := 293) dL_law_33 (by decide) (by decide) (by decide) (by decide) (law_3 hX hi hJ kk)
  by_cases h4 : mz = 4
  · subst h4
    exact v_tabIn (off := 293) (tgt := 326) dL_law_33 (by decide) (by decide) (by decide) (by decide) (law_4 hX hi hJ kk)
  by_cases h5 : mz = 5
  · subst h5
    exact v_tabIn (off := 326) (tgt := 359) dL_law_33 (by decide) (by decide) (by decide) (by decide) (law_5 hX hi hJ kk)
  by_cases h6 : mz = 6
  · subst h6
    exact v_tabIn (off := 359) (tgt := 392) dL_law_33 (by decide) (by decide) (by decide) (by decide) (law_6 hX hi hJ kk)
  by_cases h7 : mz = 7
  · subst h7
    exact v_tabIn (off := 392) (tgt := 425) dL_law_33 (by decide) (by decide) (by decide) (by decide) (law_7 hX hi hJ kk)
  by_cases h8 : mz = 8
  · subst h8
    exact v_tabIn (off := 435) (tgt := 468) dL_law_33 (by decide) (by decide) (by decide) (by decide) (law_8 hX hi hJ kk)
  by_cases h9 : mz = 9
  · subst h9
    exact v_tabIn (off := 458) (tgt := 491) dL_law_33 (by decide) (by decide) (by decide) (by decide) (law_9 hX hi hJ kk)
  by_cases h10 : mz = 10
  · subst h10
    exact v_tabIn (off := 471) (tgt := 504) dL_law_33 (by decide) (by decide) (by decide) (by decide) (law_10 hX hi hJ kk)
  by_cases h11 : mz = 11
  · subst h11
    exact v_tabIn (off := 494) (tgt := 527) dL_law_33 (by decide) (by decide) (by decide) (by decide) (law_11 hX hi hJ kk)
  by_cases h12 : mz = 12
  · subst h12
    exact v_tabIn (off := 517) (tgt := 550) dL_law_33 (by decide) (by decide) (by decide) (by decide) (law_12 hX hi hJ kk)
  by_cases h13 : mz = 13
  · subst h13
    exact v_tabIn (off := 550) (tgt := 583) dL_law_33 (by decide) (by decide) (by decide) (by decide) (law_13 hX hi hJ kk)
  by_cases h14 : mz = 14
  · subst h14
    exact v_tabIn (off := 593) (tgt := 626) dL_law_33 (by decide) (by decide) (by decide) (by decide) (law_14 hX hi hJ kk)
  by_cases h15 : mz = 15
  · subst h15
    exact v_tabIn (off := 626) (tgt := 659) dL_law_33 (by decide) (by decide) (by decide) (by decide) (law_15 hX hi hJ kk)
  by_cases h16 : mz = 16
  · subst h16
    exact v_tabIn (off := 669) (tgt := 702) dL_law_33 (by decide) (by decide) (by decide) (by decide) (law_16 hX hi hJ kk)
  by_cases h17 : mz = 17
  · subst h17
    exact v_tabIn (off := 702) (tgt := 735) dL_law_33 (by decide) (by decide) (by decide) (by decide) (law_17 hX hi hJ kk)
  by_cases h18 : mz = 18
  · subst h18
    exact v_tabIn (off := 736) (tgt := 769) dL_law_33 (by decide) (by decide) (by decide) (by decide) (law_18 hX hi hJ kk)
  by_cases h19 : mz = 19
  · subst h19
    exact v_tabIn (off := 760) (tgt := 793) dL_law_33 (by decide) (by decide) (by decide) (by decide) (law_19 hX hi hJ kk)
  by_cases h20 : mz = 20
  · subst h20
    exact v_tabIn (off := 793) (tgt := 826) dL_law_33 (by decide) (by decide) (by decide) (by decide) (law_20 hX hi hJ kk)
  by_cases h21 : mz = 21
  · subst h21
    exact v_tabIn (off := 816) (tgt := 849) dL_law_33 (by decide) (by decide) (by decide) (by decide) (law_21 hX hi hJ kk)
  by_cases h22 : mz = 22
  · subst h22
    exact v_tabIn (off := 849) (tgt := 882) dL_law_33 (by decide) (by decide) (by decide) (by decide) (law_22 hX hi hJ kk)
  by_cases h23 : mz = 23
  · subst h23
    exact v_tabIn (off := 862) (tgt := 895) dL_law_33 (by decide) (by decide) (by decide) (by decide) (law_23 hX hi hJ kk)
  by_cases h24 : mz = 24
  · subst h24
    exact v_tabIn (off := 895) (tgt := 928) dL_law_33 (by decide) (by decide) (by decide) (by decide) (law_24 hX hi hJ kk)
  by_cases h25 : mz = 25
  · subst h25
    exact v_tabIn (off := 908) (tgt := 941) dL_law_33 (by decide) (by decide) (by decide) (by decide) (law_25 hX hi hJ kk)
  by_cases h26 : mz = 26
  · subst h26
    exact v_tabIn (off := 921) (tgt := 954) dL_law_33 (by decide) (by decide) (by decide) (by decide) (law_26 hX hi hJ kk)
  by_cases h27 : mz = 27
  · subst h27
    exact v_tabIn (off := 964) (tgt := 997) dL_law_33 (by decide) (by decide) (by decide) (by decide) (law_27 hX hi hJ kk)
  by_cases h28 : mz = 28
  · subst h28
    exact v_tabIn (off := 987) (tgt := 1020) dL_law_33 (by decide) (by decide) (by decide) (by decide) (law_28 hX hi hJ kk)
  by_cases h29 : mz = 29
  · subst h29
    exact v_tabIn (off := 1020) (tgt := 1053) dL_law_33 (by decide) (by decide) (by decide) (by decide) (law_29 hX hi hJ kk)
  by_cases h30 : mz = 30
  · subst h30
    exact v_tabIn (off := 1043) (tgt := 1076) dL_law_33 (by decide) (by decide) (by decide) (by decide) (law_30 hX hi hJ kk)
  by_cases h31 : mz = 31
  · subst h31
    exact v_tabIn (off := 1086) (tgt := 1119) dL_law_33 (by decide) (by decide) (by decide) (by decide) (law_31 hX hi hJ kk)
  by_cases h32 : mz = 32
  · subst h32
    exact v_tabIn (off := 1159) (tgt := 1192) dL_law_33 (by decide) (by decide) (by decide) (by decide) (law_32 hX hi hJ kk)
  by_cases h33 : mz = 33
  · subst h33
    exact v_tabIn (off := 1193) (tgt := 1226) dL_law_33 (by decide) (by decide) (by decide) (by decide) (law_33 hX hi hJ kk)
  refine v_tabOut (tgt := 1289) dL_law_33 (Or.inr ?_) (by decide) ?_
  · rw [nI_toInt (by omega)]; omega
  · exact v_weak (Nat.le_add_right kr 2) (Nat.le_add_right sr 102) (kk I L R N n hJ)
/-- the law's loop -/
theorem law_loop (hX : ScrF g F b Ln xs) (hend : ∀ (I2 : Ty) (L2 : TL) (R2 : TR) (N2 : TN) (n2 i2 kr2 sr2 : Nat), V g F cL_law RL 4 100 1295 (lvL g b i2) [] I2 L2 R2 N2 n2 kr2 sr2) : ∀ (fz i : Nat) (I : Ty) (L : TL) (R : TR) (N : TN) (n : Nat), i ≤ 4000 → Ln + 6 ≤ i + 6 * fz → JX I L R N n → V g F cL_law RL 4 100 18 (lvL g b i) [] I L R N n (2 * fz) (102 * fz) := by
  intro fz
  induction fz with
  | zero =>
    intro i I L R N n hi hf hJ
    refine v_iload_n dL_law_18 rfl 0 rfl ?_
    refine v_aload_n dL_law_19 rfl 3 rfl ?_
    refine v_slength hX dL_law_20 ?_
    refine v_bipush (v := 6) dL_law_21 (by decide) ?_
    refine v_isub dL_law_23 ?_
    refine v_icmp_gt (tgt := 1295) dL_law_24 (by decide) (fun _ => hend _ _ _ _ _ _ _ _) (fun h => ?_)
    exfalso
    have hl := hX.2.2
    refine h (Int32.lt_iff_toInt_lt.mpr ?_)
    rw [show nI Ln - 6 = nI Ln - nI 6 from rfl, pk_sub_toInt (by omega) (by omega), nI_toInt (by omega)]
    omega
  | succ fz ih =>
    intro i I L R N n hi hf hJ
    have hl := hX.2.2
    refine v_iload_n dL_law_18 rfl 0 rfl ?_
    refine v_aload_n dL_law_19 rfl 3 rfl ?_
    refine v_slength hX dL_law_20 ?_
    refine v_bipush (v := 6) dL_law_21 (by decide) ?_
    refine v_isub dL_law_23 ?_
    refine v_icmp_gt (tgt := 1295) dL_law_24 (by decide) (fun _ => hend _ _ _ _ _ _ _ _) (fun h => ?_)
    have hi2 : i + 6 ≤ Ln := by
      refine Nat.le_of_not_lt (fun q => h (Int32.lt_iff_toInt_lt.mpr ?_))
      rw [show nI Ln - 6 = nI Ln - nI 6 from rfl, pk_sub_toInt (by omega) (by omega), nI_toInt (by omega)]
      omega
    refine law_step hX hi2 hJ (fun I2 L2 R2 N2 n2 hJ2 => ?_)
    refine v_inc dL_law_1289 0 rfl (v := nI (i + 6)) (nI_add i 6) (by decide) (lv2 := lvL g b (i + 6)) rfl ?_
    refine v_goto (tgt := 18) dL_law_1292 (by decide) ?_
    exact ih (i + 6) I2 L2 R2 N2 n2 (by omega) (by omega) hJ2
end
