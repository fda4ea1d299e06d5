theorem snlt {ln : Nat} {n : Int32} (hln : ln ≤ 60) (hn : ¬ n < 0) (h : ln < tn n) : nI ln - n < 0 := by
  apply Int32.lt_iff_toInt_lt.mpr
  have h1 := tn_int (nlt0 hn)
  have h2 := Int32.toInt_lt n
  rw [Int32.toInt_sub, nI_toInt (by omega), Int.bmod_def, show ((0 : Int32).toInt : Int) = 0 from rfl]
  split <;> omega
theorem shl {ln : Nat} {x n : Int32} (hln : ln ≤ 60) (hx : ¬ x < 0) (hn : ¬ n < 0) : (x ≤ nI ln - n) ↔ tn x + tn n ≤ ln := by
  have h1 := tn_int (nlt0 hx)
  by_cases h : tn n ≤ ln
  · have e := nI_tn (nlt0 hn)
    rw [nx_sub (b := tn n) (y := n) rfl e h]
    constructor
    · intro q; have q := Int32.le_iff_toInt_le.mp q; rw [nI_toInt (by omega)] at q; omega
    · intro q; apply Int32.le_iff_toInt_le.mpr; rw [nI_toInt (by omega)]; omega
  · constructor
    · intro q; exact absurd (Int32.lt_of_le_of_lt q (snlt hln hn (by omega))) hx
    · intro q; omega
def shC (ln : Nat) (x n : Int32) : Prop := ¬ x < 0 ∧ ¬ n < 0 ∧ tn x + tn n ≤ ln
def shA (L : TL) (b : Nat) : Nat → TL
  | 0 => L
  | k + 1 => va_up (shA L b k) 115 (va_up (shA L b k 115) k (shA L b k 114 (b + k)))
def shB (L : TL) (b : Nat) : Nat → TL
  | 0 => L
  | k + 1 => va_up (shB L b k) 114 (va_up (shB L b k 114) (b + k) (shB L b k 115 k))
def shW (I : Ty) (tz iz oz jz nz : Int32) : Prop := (inr tz 6 ∧ inr oz 6) ∧ ¬ (I 112 (tn tz) < 0 ∨ I 112 (tn oz) < 0) ∧ I 112 (tn tz) = I 112 (tn oz) ∧ shC (tn (I 113 (tn tz))) iz nz ∧ shC (tn (I 113 (tn oz))) jz nz
set_option maxRecDepth 100000 in
set_option maxHeartbeats 1000000 in
theorem c_X9_shift {g : Gl} {I : Ty} {L : TL} {na nt ni m : Nat} {nl : Nat → Nat} (tz : Int32) (iz : Int32) (oz : Int32) (jz : Int32) (nz : Int32) (hT : tapOK I) : Ct g yX9_shift cX9_shift 7 (some .int) 3 0 0 [.ref (g.1 + 65), .int tz, .int iz, .int oz, .int jz, .int nz] I L (RT na nt ni) (NT nl) (NB + m) (Ps (some (.int (ifc (inr tz 6 ∧ inr oz 6) (ifc (I 112 (tn tz) < 0 ∨ I 112 (tn oz) < 0) (-11) (ifc (I 112 (tn tz) = I 112 (tn oz)) (ifc (shC (tn (I 113 (tn tz))) iz nz ∧ shC (tn (I 113 (tn oz))) jz nz) nz (-13)) (-12))) (-1)))) I (ifc (shW I tz iz oz jz nz) (shB (shA L (60 * tn tz + tn iz) (tn nz)) (60 * tn oz + tn jz) (tn nz)) L) (RT na nt ni) (NT nl) (NB + m)) := by
  refine ct_of (by decide +kernel) (Nat.le_of_ble_eq_true rfl) (fun F hnm hr => ?_)
  clear hnm
  show V g F cX9_shift RX9 7 3 0 [(0, .ref (g.1 + 65)), (1, .int tz), (2, .int iz), (3, .int oz), (4, .int jz), (5, .int nz)] [] I L (RT na nt ni) (NT nl) (NB + m) 0 0
  refine v_aload_n dX9_shift_0 rfl 0 rfl ?_
  refine v_iload_n dX9_shift_1 rfl 1 rfl ?_
  refine v_callVi (As := [.int tz]) (rest := []) lk_X9_410 (c_X9_isTape tz) dX9_shift_2 rfl (ltn rfl) rfl rfl (Nat.le_of_ble_eq_true rfl) (by decide) ?_
  refine v_ifb_eq (tgt := 16) dX9_shift_5 (by decide) (fun h1 => ?_) (fun h1 => ?_)
  · -- not inr tz 6
    refine v_iconst (v := (-1)) dX9_shift_16 (by decide) ?_
    exact v_iret hr dX9_shift_17 (⟨congrArg (fun z => some (Value.int z)) (by rw [ifc_f (fun q => h1 q.1)]), rfl, (by rw [ifc_f (fun q => h1 q.1.1)]), rfl, rfl, rfl⟩)
  · -- inr tz 6
    obtain ⟨P2, rfl, l3, t4, u5⟩ := inr_ex h1 (by omega)
    refine v_aload_n dX9_shift_8 rfl 0 rfl ?_
    refine v_iload_n dX9_shift_9 rfl 3 rfl ?_
    refine v_callVi (As := [.int oz]) (rest := []) lk_X9_410 (c_X9_isTape oz) dX9_shift_10 rfl (ltn rfl) rfl rfl (Nat.le_of_ble_eq_true rfl) (by decide) ?_
    refine v_ifb_ne (tgt := 18) dX9_shift_13 (by decide) (fun h6 => ?_) (fun h6 => ?_)
    · -- inr oz 6
      obtain ⟨P7, rfl, l8, t9, u10⟩ := inr_ex h6 (by omega)
      obtain ⟨ln, hln, hle⟩ := hT P2 l3
      obtain ⟨lo, hlo, hlf⟩ := hT P7 l8
      have hle2 : tn (I 113 P2) = ln := by rw [hle, tn_nI (by omega)]
      have hlf2 : tn (I 113 P7) = lo := by rw [hlf, tn_nI (by omega)]
      have e1 : tn (nI P2) = P2 := t4
      have e2 : tn (nI P7) = P7 := t9
      refine v_aload_n dX9_shift_18 rfl 0 rfl ?_
      refine v_get (v := .ref (g.1 + 112)) fa_X9_220 dX9_shift_19 rfl (by decide) (ltn rfl) rfl ?_
      refine v_iload_n dX9_shift_22 rfl 1 rfl ?_
      refine v_iaload (len := 6) (j := P2) dX9_shift_23 rfl (ltn rfl) rfl (by decide) rfl (by omega) ?_
      refine v_if_lt (tgt := 36) dX9_shift_24 (by decide) (fun h12 => ?_) (fun h12 => ?_)
      · refine v_bipush (v := (-11)) dX9_shift_36 (by decide) ?_
        exact v_iret hr dX9_shift_38 (⟨congrArg (fun z => some (Value.int z)) (by simp only [e1, e2, hle2, hlf2]; rw [ifc_t ⟨h1, h6⟩, ifc_t (Or.inl h12)]), rfl, (by unfold shW; simp only [e1, e2, hle2, hlf2]; rw [ifc_f (fun q => q.2.1 (Or.inl h12))]), rfl, rfl, rfl⟩)
      · refine v_aload_n dX9_shift_27 rfl 0 rfl ?_
        refine v_get (v := .ref (g.1 + 112)) fa_X9_220 dX9_shift_28 rfl (by decide) (ltn rfl) rfl ?_
        refine v_iload_n dX9_shift_31 rfl 3 rfl ?_
        refine v_iaload (len := 6) (j := P7) dX9_shift_32 rfl (ltn rfl) rfl (by decide) rfl (by omega) ?_
        refine v_if_ge (tgt := 39) dX9_shift_33 (by decide) (fun h14 => ?_) (fun h14 => ?_)
        · have hsn : ¬ (I 112 P2 < 0 ∨ I 112 P7 < 0) := fun q => q.elim h12 (Int32.not_lt.mpr h14)
          refine v_aload_n dX9_shift_39 rfl 0 rfl ?_
          refine v_get (v := .ref (g.1 + 112)) fa_X9_220 dX9_shift_40 rfl (by decide) (ltn rfl) rfl ?_
          refine v_iload_n dX9_shift_43 rfl 1 rfl ?_
          refine v_iaload (len := 6) (j := P2) dX9_shift_44 rfl (ltn rfl) rfl (by decide) rfl (by omega) ?_
          refine v_aload_n dX9_shift_45 rfl 0 rfl ?_
          refine v_get (v := .ref (g.1 + 112)) fa_X9_220 dX9_shift_46 rfl (by decide) (ltn rfl) rfl ?_
          refine v_iload_n dX9_shift_49 rfl 3 rfl ?_
          refine v_iaload (len := 6) (j := P7) dX9_shift_50 rfl (ltn rfl) rfl (by decide) rfl (by omega) ?_
          refine v_icmp_eq (tgt := 57) dX9_shift_51 (by decide) (fun h16 => ?_) (fun h16 => ?_)
          · refine v_iload dX9_shift_57 5 rfl ?_
            refine v_if_lt (tgt := 98) dX9_shift_59 (by decide) (fun h18 => ?_) (fun h18 => ?_)
            · refine v_bipush (v := (-13)) dX9_shift_98 (by decide) ?_
              exact v_iret hr dX9_shift_100 (⟨congrArg (fun z => some (Value.int z)) (by simp only [e1, e2, hle2, hlf2]; rw [ifc_t ⟨h1, h6⟩, ifc_f hsn, ifc_t h16, ifc_f (fun q => q.1.2.1 h18)]), rfl, (by unfold shW; simp only [e1, e2, hle2, hlf2]; rw [ifc_f (fun q => q.2.2.2.1.2.1 h18)]), rfl, rfl, rfl⟩)
            · refine v_iload_n dX9_shift_62 rfl 2 rfl ?_
              refine v_if_lt (tgt := 98) dX9_shift_63 (by decide) (fun h20 => ?_) (fun h20 => ?_)
              · refine v_bipush (v := (-13)) dX9_shift_98 (by decide) ?_
                exact v_iret hr dX9_shift_100 (⟨congrArg (fun z => some (Value.int z)) (by simp only [e1, e2, hle2, hlf2]; rw [ifc_t ⟨h1, h6⟩, ifc_f hsn, ifc_t h16, ifc_f (fun q => q.1.1 h20)]), rfl, (by unfold shW; simp only [e1, e2, hle2, hlf2]; rw [ifc_f (fun q => q.2.2.2.1.1 h20)]), rfl, rfl, rfl⟩)
              · refine v_iload dX9_shift_66 4 rfl ?_
                refine v_if_lt (tgt := 98) dX9_shift_68 (by decide) (fun h22 => ?_) (fun h22 => ?_)
                · refine v_bipush (v := (-13)) dX9_shift_98 (by decide) ?_
                  exact v_iret hr dX9_shift_100 (⟨congrArg (fun z => some (Value.int z)) (by simp only [e1, e2, hle2, hlf2]; rw [ifc_t ⟨h1, h6⟩, ifc_f hsn, ifc_t h16, ifc_f (fun q => q.2.1 h22)]), rfl, (by unfold shW; simp only [e1, e2, hle2, hlf2]; rw [ifc_f (fun q => q.2.2.2.2.1 h22)]), rfl, rfl, rfl⟩)
                · refine v_iload_n dX9_shift_71 rfl 2 rfl ?_
                  refine v_aload_n dX9_shift_72 rfl 0 rfl ?_
                  refine v_get (v := .ref (g.1 + 113)) fa_X9_223 dX9_shift_73 rfl (by decide) (ltn rfl) rfl ?_
                  refine v_iload_n dX9_shift_76 rfl 1 rfl ?_
                  refine v_iaload (len := 6) (j := P2) dX9_shift_77 rfl (ltn rfl) rfl (by decide) rfl (by omega) ?_
                  refine v_is hle ?_
                  refine v_iload dX9_shift_78 5 rfl ?_
                  refine v_isub dX9_shift_80 ?_
                  have hsA := shl (x := iz) (n := nz) hln h20 h18
                  refine v_icmp_gt (tgt := 98) dX9_shift_81 (by decide) (fun h24 => ?_) (fun h24 => ?_)
                  · refine v_bipush (v := (-13)) dX9_shift_98 (by decide) ?_
                    exact v_iret hr dX9_shift_100 (⟨congrArg (fun z => some (Value.int z)) (by simp only [e1, e2, hle2, hlf2]; rw [ifc_t ⟨h1, h6⟩, ifc_f hsn, ifc_t h16, ifc_f (fun q => absurd h24 (Int32.not_lt.mpr (hsA.mpr q.1.2.2)))]), rfl, (by unfold shW; simp only [e1, e2, hle2, hlf2]; rw [ifc_f (fun q => absurd h24 (Int32.not_lt.mpr (hsA.mpr q.2.2.2.1.2.2)))]), rfl, rfl, rfl⟩)
                  · have hA := hsA.mp (Int32.not_lt.mp h24)
                    refine v_iload dX9_shift_84 4 rfl ?_
                    refine v_aload_n dX9_shift_86 rfl 0 rfl ?_
                    refine v_get (v := .ref (g.1 + 113)) fa_X9_223 dX9_shift_87 rfl (by decide) (ltn rfl) rfl ?_
                    refine v_iload_n dX9_shift_90 rfl 3 rfl ?_
                    refine v_iaload (len := 6) (j := P7) dX9_shift_91 rfl (ltn rfl) rfl (by decide) rfl (by omega) ?_
                    refine v_is hlf ?_
                    refine v_iload dX9_shift_92 5 rfl ?_
                    refine v_isub dX9_shift_94 ?_
                    have hsB := shl (x := jz) (n := nz) hlo h22 h18
                    refine v_icmp_le (tgt := 101) dX9_shift_95 (by decide) (fun h26 => ?_) (fun h26 => ?_)
                    · have hB := hsB.mp h26
                      have eiz := nI_tn (nlt0 h20)
                      have ejz := nI_tn (nlt0 h22)
                      have enz := nI_tn (nlt0 h18)
                      have hok : shC ln iz nz ∧ shC lo jz nz := ⟨⟨h20, h18, hA⟩, ⟨h22, h18, hB⟩⟩
                      refine v_iconst (v := 0) dX9_shift_101 (by decide) ?_
                      refine v_istore (lv2 := [(6, .int 0), (0, .ref (g.1 + 65)), (1, .int (nI P2)), (2, .int iz), (3, .int (nI P7)), (4, .int jz), (5, .int nz)]) dX9_shift_102 (by decide) rfl ?_
                      refine v_lv (lv2 := [(6, .int (nI 0)), (0, .ref (g.1 + 65)), (1, .int (nI P2)), (2, .int iz), (3, .int (nI P7)), (4, .int jz), (5, .int nz)]) (by rfl) ?_
                      refine v_L (L2 := (shA L (60 * P2 + tn iz) 0)) (by rfl) ?_
                      refine dloop (P := fun i => V g F cX9_shift RX9 7 3 104 [(6, .int (nI i)), (0, .ref (g.1 + 65)), (1, .int (nI P2)), (2, .int iz), (3, .int (nI P7)), (4, .int jz), (5, .int nz)] [] I (shA L (60 * P2 + tn iz) i) (RT na nt ni) (NT nl) (NB + m) 0 0) (tn nz) ?_ ?_ 0 (Nat.zero_le _)
                      · refine v_iload dX9_shift_104 0 rfl ?_
                        refine v_iload dX9_shift_106 6 rfl ?_
                        refine v_icmp_geN (a := (tn nz)) (b := (tn nz)) (tgt := 138) dX9_shift_108 (by decide) rfl enz (by omega) (by omega) (fun h27 => ?_) (fun h => by exfalso; omega)
                        refine v_iconst (v := 0) dX9_shift_138 (by decide) ?_
                        refine v_istore (lv2 := [(6, .int 0), (0, .ref (g.1 + 65)), (1, .int (nI P2)), (2, .int iz), (3, .int (nI P7)), (4, .int jz), (5, .int nz)]) dX9_shift_139 (by decide) rfl ?_
                        refine v_lv (lv2 := [(6, .int (nI 0)), (0, .ref (g.1 + 65)), (1, .int (nI P2)), (2, .int iz), (3, .int (nI P7)), (4, .int jz), (5, .int nz)]) (by rfl) ?_
                        refine v_L (L2 := (shB (shA L (60 * P2 + tn iz) (tn nz)) (60 * P7 + tn jz) 0)) (by rfl) ?_
                        refine dloop (P := fun i => V g F cX9_shift RX9 7 3 141 [(6, .int (nI i)), (0, .ref (g.1 + 65)), (1, .int (nI P2)), (2, .int iz), (3, .int (nI P7)), (4, .int jz), (5, .int nz)] [] I (shB (shA L (60 * P2 + tn iz) (tn nz)) (60 * P7 + tn jz) i) (RT na nt ni) (NT nl) (NB + m) 0 0) (tn nz) ?_ ?_ 0 (Nat.zero_le _)
                        · refine v_iload dX9_shift_141 0 rfl ?_
                          refine v_iload dX9_shift_143 6 rfl ?_
                          refine v_icmp_geN (a := (tn nz)) (b := (tn nz)) (tgt := 176) dX9_shift_145 (by decide) rfl enz (by omega) (by omega) (fun h28 => ?_) (fun h => by exfalso; omega)
                          refine v_iload dX9_shift_176 6 rfl ?_
                          exact v_iret hr dX9_shift_178 (⟨congrArg (fun z => some (Value.int z)) (by simp only [e1, e2, hle2, hlf2]; rw [ifc_t ⟨h1, h6⟩, ifc_f hsn, ifc_t h16, ifc_t hok]), rfl, (by unfold shW; simp only [e1, e2, hle2, hlf2]; rw [ifc_t ⟨⟨h1, h6⟩, hsn, h16, hok⟩]), rfl, rfl, rfl⟩)
                        · intro i hi ih
                          refine v_iload dX9_shift_141 0 rfl ?_
                          refine v_iload dX9_shift_143 6 rfl ?_
                          refine v_icmp_geN (a := i) (b := (tn nz)) (tgt := 176) dX9_shift_145 (by decide) rfl enz (by omega) (by omega) (fun h => by exfalso; omega) (fun h29 => ?_)
                          refine v_aload_n dX9_shift_148 rfl 1 rfl ?_
                          refine v_get (v := .ref (g.1 + 114)) fa_X9_226 dX9_shift_149 rfl (by decide) (ltn rfl) rfl ?_
                          refine v_bipush (v := 60) dX9_shift_152 (by decide) ?_
                          refine v_iload_n dX9_shift_154 rfl 4 rfl ?_
                          refine v_imul dX9_shift_155 ?_
                          refine v_is (nx_mul rfl rfl) ?_
                          refine v_iload dX9_shift_156 5 rfl ?_
                          refine v_iadd dX9_shift_158 ?_
                          refine v_is (nx_add rfl ejz) ?_
                          refine v_iload dX9_shift_159 0 rfl ?_
                          refine v_iadd dX9_shift_161 ?_
                          refine v_is (nx_add rfl rfl) ?_
                          refine v_aload_n dX9_shift_162 rfl 1 rfl ?_
                          refine v_get (v := .ref (g.1 + 115)) fa_X9_230 dX9_shift_163 rfl (by decide) (ltn rfl) rfl ?_
                          refine v_iload dX9_shift_166 0 rfl ?_
                          refine v_laload (len := 60) (j := i) dX9_shift_168 rfl (ltn rfl) rfl (by decide) rfl (by omega) ?_
                          refine v_lastore (len := 360) (j := (((60 * P7) + (tn jz)) + i)) dX9_shift_169 rfl (ltn rfl) rfl (by decide) rfl (by omega) ?_
                          refine v_inc (v := nI (i + 1)) (lv2 := [(6, .int (nI (i + 1))), (0, .ref (g.1 + 65)), (1, .int (nI P2)), (2, .int iz), (3, .int (nI P7)), (4, .int jz), (5, .int nz)]) dX9_shift_170 0 rfl (nx_inc rfl) (by decide) rfl ?_
                          refine v_goto (tgt := 141) dX9_shift_173 (by decide) ?_
                          refine v_L (L2 := (shB (shA L (60 * P2 + tn iz) (tn nz)) (60 * P7 + tn jz) (i + 1))) (by rfl) ?_
                          exact ih
                      · intro i hi ih
                        refine v_iload dX9_shift_104 0 rfl ?_
                        refine v_iload dX9_shift_106 6 rfl ?_
                        refine v_icmp_geN (a := i) (b := (tn nz)) (tgt := 138) dX9_shift_108 (by decide) rfl enz (by omega) (by omega) (fun h => by exfalso; omega) (fun h30 => ?_)
                        refine v_aload_n dX9_shift_111 rfl 1 rfl ?_
                        refine v_get (v := .ref (g.1 + 115)) fa_X9_230 dX9_shift_112 rfl (by decide) (ltn rfl) rfl ?_
                        refine v_iload dX9_shift_115 0 rfl ?_
                        refine v_aload_n dX9_shift_117 rfl 1 rfl ?_
                        refine v_get (v := .ref (g.1 + 114)) fa_X9_226 dX9_shift_118 rfl (by decide) (ltn rfl) rfl ?_
                        refine v_bipush (v := 60) dX9_shift_121 (by decide) ?_
                        refine v_iload_n dX9_shift_123 rfl 2 rfl ?_
                        refine v_imul dX9_shift_124 ?_
                        refine v_is (nx_mul rfl rfl) ?_
                        refine v_iload_n dX9_shift_125 rfl 3 rfl ?_
                        refine v_iadd dX9_shift_126 ?_
                        refine v_is (nx_add rfl eiz) ?_
                        refine v_iload dX9_shift_127 0 rfl ?_
                        refine v_iadd dX9_shift_129 ?_
                        refine v_is (nx_add rfl rfl) ?_
                        refine v_laload (len := 360) (j := (((60 * P2) + (tn iz)) + i)) dX9_shift_130 rfl (ltn rfl) rfl (by decide) rfl (by omega) ?_
                        refine v_lastore (len := 60) (j := i) dX9_shift_131 rfl (ltn rfl) rfl (by decide) rfl (by omega) ?_
                        refine v_inc (v := nI (i + 1)) (lv2 := [(6, .int (nI (i + 1))), (0, .ref (g.1 + 65)), (1, .int (nI P2)), (2, .int iz), (3, .int (nI P7)), (4, .int jz), (5, .int nz)]) dX9_shift_132 0 rfl (nx_inc rfl) (by decide) rfl ?_
                        refine v_goto (tgt := 104) dX9_shift_135 (by decide) ?_
                        refine v_L (L2 := (shA L (60 * P2 + tn iz) (i + 1))) (by rfl) ?_
                        exact ih
                    · refine v_bipush (v := (-13)) dX9_shift_98 (by decide) ?_
                      exact v_iret hr dX9_shift_100 (⟨congrArg (fun z => some (Value.int z)) (by simp only [e1, e2, hle2, hlf2]; rw [ifc_t ⟨h1, h6⟩, ifc_f hsn, ifc_t h16, ifc_f (fun q => h26 (hsB.mpr q.2.2.2))]), rfl, (by unfold shW; simp only [e1, e2, hle2, hlf2]; rw [ifc_f (fun q => h26 (hsB.mpr q.2.2.2.2.2.2))]), rfl, rfl, rfl⟩)
          · refine v_bipush (v := (-12)) dX9_shift_54 (by decide) ?_
            exact v_iret hr dX9_shift_56 (⟨congrArg (fun z => some (Value.int z)) (by simp only [e1, e2, hle2, hlf2]; rw [ifc_t ⟨h1, h6⟩, ifc_f hsn, ifc_f h16]), rfl, (by unfold shW; simp only [e1, e2, hle2, hlf2]; rw [ifc_f (fun q => h16 q.2.2.1)]), rfl, rfl, rfl⟩)
        · refine v_bipush (v := (-11)) dX9_shift_36 (by decide) ?_
          exact v_iret hr dX9_shift_38 (⟨congrArg (fun z => some (Value.int z)) (by simp only [e1, e2, hle2, hlf2]; rw [ifc_t ⟨h1, h6⟩, ifc_t (Or.inr (Int32.not_le.mp h14))]), rfl, (by unfold shW; simp only [e1, e2, hle2, hlf2]; rw [ifc_f (fun q => q.2.1 (Or.inr (Int32.not_le.mp h14)))]), rfl, rfl, rfl⟩)
    · -- not inr oz 6
      refine v_iconst (v := (-1)) dX9_shift_16 (by decide) ?_
      exact v_iret hr dX9_shift_17 (⟨congrArg (fun z => some (Value.int z)) (by rw [ifc_f (fun q => h6 q.2)]), rfl, (by rw [ifc_f (fun q => h6 q.1.2)]), rfl, rfl, rfl⟩)
