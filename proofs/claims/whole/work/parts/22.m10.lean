section
variable {ga kd vv gl rw : Nat → Int32} {pp : Nat} {ns : (Int32 → Int32) → Int32 → Int32} {ho : Int32} {less : Int32 → Int32} {s : T3} {p : Nat}
theorem go1_a (h : gl p < 0) : go1 ga kd vv gl rw pp ns ho less s p = s := ifc_t h
theorem go1_b (h : gl p = s.1 p) : go1 ga kd vv gl rw pp ns ho less s p = s := by
  by_cases h1 : gl p < 0
  · exact go1_a h1
  · exact (ifc_f h1).trans (ifc_t h)
theorem go1_c {sz gz : Nat} (hs : s.1 p = nI sz) (hg : gl p = nI gz) (hsz : sz < 16) (hgz : gz < 16) (h : lw (s.2.1 p) sz gz < 0) : go1 ga kd vv gl rw pp ns ho less s p = s := by
  by_cases h1 : gl p < 0
  · exact go1_a h1
  · by_cases h2 : gl p = s.1 p
    · exact go1_b h2
    · exact (ifc_f h1).trans ((ifc_f h2).trans (ifc_t (by rw [hs, hg, tn_nI (by omega), tn_nI (by omega)]; exact h)))
theorem go1_d {sz gz : Nat} (hs : s.1 p = nI sz) (hg : gl p = nI gz) (hsz : sz < 16) (hgz : gz < 16) (hne : sz ≠ gz) (h : ¬ lw (s.2.1 p) sz gz < 0) (hw : 0 < Wl ga kd vv rw pp ns ho s.1 s.2.1 p (fstC (s.2.1 p) sz gz)) : go1 ga kd vv gl rw pp ns ho less s p = (va_up s.1 p (nI (fstC (s.2.1 p) sz gz)), s.2.1, s.2.2) := by
  have h1 : ¬ gl p < 0 := by rw [hg]; exact nI_pos (by omega)
  have h2 : ¬ gl p = s.1 p := by rw [hg, hs]; exact fun e => hne ((nI_eq (by omega) (by omega)).mp e.symm)
  have e : go1 ga kd vv gl rw pp ns ho less s p = _ := (ifc_f h1).trans ((ifc_f h2).trans (ifc_f (by rw [hs, hg, tn_nI (by omega), tn_nI (by omega)]; exact h)))
  rw [e, hs, hg, tn_nI (by omega), tn_nI (by omega)]
  exact ifc_t hw
theorem go1_e {sz gz : Nat} (hs : s.1 p = nI sz) (hg : gl p = nI gz) (hsz : sz < 16) (hgz : gz < 16) (hne : sz ≠ gz) (h : ¬ lw (s.2.1 p) sz gz < 0) (hw : ¬ 0 < Wl ga kd vv rw pp ns ho s.1 s.2.1 p (fstC (s.2.1 p) sz gz)) : go1 ga kd vv gl rw pp ns ho less s p = (s.1, va_up s.2.1 p (s.2.1 p ||| 1 <<< (nI (fstC (s.2.1 p) sz gz) &&& 31)), va_up s.2.2 p (less (s.2.2 p))) := by
  have h1 : ¬ gl p < 0 := by rw [hg]; exact nI_pos (by omega)
  have h2 : ¬ gl p = s.1 p := by rw [hg, hs]; exact fun e => hne ((nI_eq (by omega) (by omega)).mp e.symm)
  have e : go1 ga kd vv gl rw pp ns ho less s p = _ := (ifc_f h1).trans ((ifc_f h2).trans (ifc_f (by rw [hs, hg, tn_nI (by omega), tn_nI (by omega)]; exact h)))
  rw [e, hs, hg, tn_nI (by omega), tn_nI (by omega)]
  exact ifc_f hw
end
theorem mput_sp (I : Ty) (f h : Nat → Int32) (a : Nat → Int32) : va_up (scr I f h) 69 a = scr (mput I (a, I 71, I 72)) f h := by
  unfold mput scr
  funext j; unfold va_up
  by_cases h1 : j = 72
  · subst h1; rfl
  · by_cases h2 : j = 71
    · subst h2; rfl
    · by_cases h3 : j = 69
      · subst h3; rfl
      · simp [h1, h2, h3]
theorem mput_cn (I : Ty) (f h : Nat → Int32) (a b : Nat → Int32) : va_up (va_up (scr I f h) 71 a) 72 b = scr (mput I (I 69, a, b)) f h := by
  unfold mput scr
  funext j; unfold va_up
  by_cases h1 : j = 72
  · subst h1; rfl
  · by_cases h2 : j = 71
    · subst h2; rfl
    · by_cases h3 : j = 69
      · subst h3; rfl
      · simp [h1, h2, h3]
set_option maxRecDepth 100000 in
set_option maxHeartbeats 2000000 in
theorem c_X9_goes {g : Gl} {I : Ty} {L : TL} {na nt ni m : Nat} {nl : Nat → Nat} (p : Nat) (pp : Nat) (hpp : pp ≤ 6) (hpe : I 65 0 = nI pp) (hp : p < 6) (hN : mOK I) (hsp : ∃ s, s < 16 ∧ I 69 p = nI s) (hgl : I 70 p < 0 ∨ ∃ g, g < 16 ∧ I 70 p = nI g) : Ct g yX9_goes cX9_goes 3 none 4 0 0 [.ref (g.1 + 65), .int (nI p)] I L (RT na nt ni) (NT nl) (NB + m) (Pq none (mput I (go1 (I 66) (I 67) (I 68) (I 70) (I 73) pp (msum I) (I 65 1) (lessM (I 65 29)) (mget I) p)) L (RT na nt ni) (NT nl) (NB + m)) := by
  refine ct_of (by decide +kernel) (Nat.le_of_ble_eq_true rfl) (fun F hnm hr => ?_)
  clear hnm
  show V g F cX9_goes RX9 3 4 0 [(0, .ref (g.1 + 65)), (1, .int (nI p))] [] I L (RT na nt ni) (NT nl) (NB + m) 0 0
  obtain ⟨sz, hsz, hes⟩ := hsp
  refine v_aload_n dX9_goes_0 rfl 0 rfl ?_
  refine v_get (v := .ref (g.1 + 70)) fa_X9_29 dX9_goes_1 rfl (by decide) (ltn rfl) rfl ?_
  refine v_iload_n dX9_goes_4 rfl 1 rfl ?_
  refine v_iaload (len := 6) (j := p) dX9_goes_5 rfl (ltn rfl) rfl (by decide) rfl (by omega) ?_
  refine v_if_lt (tgt := 49) dX9_goes_6 (by decide) (fun h2 => ?_) (fun h2 => ?_)
  · exact v_vret hr dX9_goes_49 (⟨rfl, ⟨I 83, I 84, by rw [go1_a h2, mput_self]; exact scr_self I⟩, rfl, rfl, rfl, rfl⟩)
  · obtain ⟨gz, hgz, heg⟩ := hgl.resolve_left h2
    refine v_aload_n dX9_goes_9 rfl 0 rfl ?_
    refine v_get (v := .ref (g.1 + 70)) fa_X9_29 dX9_goes_10 rfl (by decide) (ltn rfl) rfl ?_
    refine v_iload_n dX9_goes_13 rfl 1 rfl ?_
    refine v_iaload (len := 6) (j := p) dX9_goes_14 rfl (ltn rfl) rfl (by decide) rfl (by omega) ?_
    refine v_is (y := nI gz) heg ?_
    refine v_aload_n dX9_goes_15 rfl 0 rfl ?_
    refine v_get (v := .ref (g.1 + 69)) fa_X9_26 dX9_goes_16 rfl (by decide) (ltn rfl) rfl ?_
    refine v_iload_n dX9_goes_19 rfl 1 rfl ?_
    refine v_iaload (len := 6) (j := p) dX9_goes_20 rfl (ltn rfl) rfl (by decide) rfl (by omega) ?_
    refine v_is (y := nI sz) hes ?_
    refine v_icmp_eqN (a := gz) (b := sz) (tgt := 49) dX9_goes_21 (by decide) rfl rfl (by omega) (by omega) (fun h4 => ?_) (fun h4 => ?_)
    · exact v_vret hr dX9_goes_49 (⟨rfl, ⟨I 83, I 84, by rw [go1_b (s := mget I) (by show I 70 p = I 69 p; rw [heg, hes, h4]), mput_self]; exact scr_self I⟩, rfl, rfl, rfl, rfl⟩)
    · refine v_aload_n dX9_goes_24 rfl 0 rfl ?_
      refine v_aload_n dX9_goes_25 rfl 0 rfl ?_
      refine v_get (v := .ref (g.1 + 71)) fa_X9_32 dX9_goes_26 rfl (by decide) (ltn rfl) rfl ?_
      refine v_iload_n dX9_goes_29 rfl 1 rfl ?_
      refine v_iaload (len := 6) (j := p) dX9_goes_30 rfl (ltn rfl) rfl (by decide) rfl (by omega) ?_
      refine v_aload_n dX9_goes_31 rfl 0 rfl ?_
      refine v_get (v := .ref (g.1 + 69)) fa_X9_26 dX9_goes_32 rfl (by decide) (ltn rfl) rfl ?_
      refine v_iload_n dX9_goes_35 rfl 1 rfl ?_
      refine v_iaload (len := 6) (j := p) dX9_goes_36 rfl (ltn rfl) rfl (by decide) rfl (by omega) ?_
      refine v_is (y := nI sz) hes ?_
      refine v_aload_n dX9_goes_37 rfl 0 rfl ?_
      refine v_get (v := .ref (g.1 + 70)) fa_X9_29 dX9_goes_38 rfl (by decide) (ltn rfl) rfl ?_
      refine v_iload_n dX9_goes_41 rfl 1 rfl ?_
      refine v_iaload (len := 6) (j := p) dX9_goes_42 rfl (ltn rfl) rfl (by decide) rfl (by omega) ?_
      refine v_is (y := nI gz) heg ?_
      refine v_callV (As := [.int (I 71 p), .int (nI sz), .int (nI gz)]) (rest := []) lk_X9_334 (c_X9_longWay (I 71 p) sz gz (by omega) (by omega)) dX9_goes_43 rfl (ltn rfl) rfl rfl (Nat.le_of_ble_eq_true rfl) (by decide) (Nat.zero_le _) (Nat.zero_le _) (fun v I5 L_ R_ N_ n_ q6 => ?_)
      obtain ⟨rfl, ⟨hq, hrow, rfl⟩, rfl, rfl, rfl, rfl⟩ := q6
      have hD9 : ∀ j, j < 16 → dst (I 71 p) gz j ≤ 99 := fun j hj => (dst_is (I 71 p) gz j hj).1
      refine v_if_ge (tgt := 50) dX9_goes_46 (by decide) (fun h8 => ?_) (fun h8 => ?_)
      · have hlw := Int32.not_lt.mpr h8
        obtain ⟨hfl, hfe⟩ := fstC_lt (fun e => h4 e.symm) hlw
        refine v_aload_n dX9_goes_50 rfl 0 rfl ?_
        refine v_aload_n dX9_goes_51 rfl 0 rfl ?_
        refine v_get (v := .ref (g.1 + 69)) fa_X9_26 dX9_goes_52 rfl (by decide) (ltn rfl) rfl ?_
        refine v_iload_n dX9_goes_55 rfl 1 rfl ?_
        refine v_iaload (len := 6) (j := p) dX9_goes_56 rfl (ltn rfl) rfl (by decide) rfl (by omega) ?_
        refine v_is (y := I 69 p) (by rfl) ?_
        refine v_is (y := nI sz) hes ?_
        refine v_callVi (As := [.int (nI sz)]) (rest := []) lk_X9_337 (c_X9_stepFrom (I := (scr I (I 83) hq)) sz (by omega) (dst (I 71 p) gz) hrow hD9) dX9_goes_57 rfl (ltn rfl) rfl rfl (Nat.le_of_ble_eq_true rfl) (by decide) ?_
        refine v_is hfe ?_
        refine v_istore_n (lv2 := [(2, .int (nI (fstC (I 71 p) sz gz))), (0, .ref (g.1 + 65)), (1, .int (nI p))]) dX9_goes_60 rfl (by decide) rfl ?_
        refine v_aload_n dX9_goes_61 rfl 1 rfl ?_
        refine v_iload_n dX9_goes_62 rfl 2 rfl ?_
        refine v_iload_n dX9_goes_63 rfl 0 rfl ?_
        refine v_callVqi (As := [.int (nI p), .int (nI (fstC (I 71 p) sz gz))]) (rest := []) lk_X9_318 (c_X9_welcomeOf (I := (scr I (I 83) hq)) p (fstC (I 71 p) sz gz) pp hpp hpe (by omega) (by omega) hN) dX9_goes_64 rfl (ltn rfl) rfl rfl (Nat.le_of_ble_eq_true rfl) (by decide) (fun fq9 hq10 => ?_)
        refine v_is (y := mwel I pp p (fstC (I 71 p) sz gz)) rfl ?_
        refine v_I (scr_scr _ _ _ _ _) ?_
        refine v_if_le (tgt := 80) dX9_goes_67 (by decide) (fun h12 => ?_) (fun h12 => ?_)
        · have hwl := Int32.not_lt.mpr h12
          refine v_aload_n dX9_goes_80 rfl 1 rfl ?_
          refine v_get (v := .ref (g.1 + 71)) fa_X9_32 dX9_goes_81 rfl (by decide) (ltn rfl) rfl ?_
          refine v_iload_n dX9_goes_84 rfl 2 rfl ?_
          refine v_dup2 dX9_goes_85 rfl rfl ?_
          refine v_iaload (len := 6) (j := p) dX9_goes_86 rfl (ltn rfl) rfl (by decide) rfl (by omega) ?_
          refine v_is (y := I 71 p) (by rfl) ?_
          refine v_iconst (v := 1) dX9_goes_87 (by decide) ?_
          refine v_iload_n dX9_goes_88 rfl 0 rfl ?_
          refine v_ishl dX9_goes_89 ?_
          refine v_ior dX9_goes_90 ?_
          refine v_iastore (len := 6) (j := p) dX9_goes_91 rfl (ltn rfl) rfl (by decide) rfl (by omega) ?_
          refine v_aload_n dX9_goes_92 rfl 1 rfl ?_
          refine v_get (v := .ref (g.1 + 72)) fa_X9_35 dX9_goes_93 rfl (by decide) (ltn rfl) rfl ?_
          refine v_iload_n dX9_goes_96 rfl 2 rfl ?_
          refine v_aload_n dX9_goes_97 rfl 1 rfl ?_
          refine v_aload_n dX9_goes_98 rfl 1 rfl ?_
          refine v_get (v := .ref (g.1 + 72)) fa_X9_35 dX9_goes_99 rfl (by decide) (ltn rfl) rfl ?_
          refine v_iload_n dX9_goes_102 rfl 2 rfl ?_
          refine v_iaload (len := 6) (j := p) dX9_goes_103 rfl (ltn rfl) rfl (by decide) rfl (by omega) ?_
          refine v_is (y := I 72 p) (by first | (rfl) | (simp only [va_up]; rfl) | (simp [va_up]; rfl)) ?_
          refine v_iconst (v := 1) dX9_goes_104 (by decide) ?_
          refine v_iadd dX9_goes_105 ?_
          refine v_aload_n dX9_goes_106 rfl 1 rfl ?_
          refine v_get (v := .int ((scr I fq9 hq10) 65 29)) fa_X9_99 dX9_goes_107 rfl (by decide) (ltn rfl) rfl ?_
          refine v_is (y := I 65 29) (by rfl) ?_
          refine v_callVi (As := [.int (I 72 p + 1), .int (I 65 29)]) (rest := [.int (nI p), .ref (g.1 + 72)]) lk_X9_324 (c_X9_least (I := (wr (scr I fq9 hq10) 71 p (I 71 p ||| (1 <<< (nI (fstC (I 71 p) sz gz) &&& 31))))) (I 72 p + 1) (I 65 29)) dX9_goes_110 rfl (ltn rfl) rfl rfl (Nat.le_of_ble_eq_true rfl) (by decide) ?_
          refine v_iastore (len := 6) (j := p) dX9_goes_113 rfl (ltn rfl) rfl (by decide) rfl (by omega) ?_
          exact v_vret hr dX9_goes_114 (⟨rfl, ⟨fq9, hq10, by rw [go1_e (s := mget I) hes heg hsz hgz (fun e => h4 e.symm) hlw hwl]; exact mput_cn I _ _ _ _⟩, rfl, rfl, rfl, rfl⟩)
        · have hwl := Int32.not_le.mp h12
          refine v_aload_n dX9_goes_70 rfl 1 rfl ?_
          refine v_get (v := .ref (g.1 + 69)) fa_X9_26 dX9_goes_71 rfl (by decide) (ltn rfl) rfl ?_
          refine v_iload_n dX9_goes_74 rfl 2 rfl ?_
          refine v_iload_n dX9_goes_75 rfl 0 rfl ?_
          refine v_iastore (len := 6) (j := p) dX9_goes_76 rfl (ltn rfl) rfl (by decide) rfl (by omega) ?_
          refine v_goto (tgt := 114) dX9_goes_77 (by decide) ?_
          exact v_vret hr dX9_goes_114 (⟨rfl, ⟨fq9, hq10, by rw [go1_d (s := mget I) hes heg hsz hgz (fun e => h4 e.symm) hlw hwl]; exact mput_sp I _ _ _⟩, rfl, rfl, rfl, rfl⟩)
      · have hlw := Int32.not_le.mp h8
        exact v_vret hr dX9_goes_49 (⟨rfl, ⟨I 83, hq, by rw [go1_c (s := mget I) hes heg hsz hgz hlw, mput_self]⟩, rfl, rfl, rfl, rfl⟩)
