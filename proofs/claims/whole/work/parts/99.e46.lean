def kI65 (I : Ty) : Ty := (va_up (wr (wr (wr (wr (wr (wr (va_up (va_up (wr (va_up (va_up (va_up (va_up (va_up (va_up (va_up (va_up (va_up (va_up (va_up (va_up (va_up (va_up (va_up (wr (wr (wr (wr (wr (wr (wr (va_up (va_up (va_up (va_up (wr (wr (va_up (va_up (va_up (wr (va_up (va_up (va_up (va_up (wr (wr (va_up (va_up (wr (wr (wr (wr (wr (wr (wr (wr (wr (wr (wr (wr (va_up (wr (wr (wr (va_up (va_up (va_up (va_up (va_up (va_up (va_up (va_up (wr (wr (wr (wr (wr (va_up (va_up (va_up (va_up (va_up (va_up (va_up (wr (wr (wr (wr (wr (wr (wr (wr (wr (wr (wr (wr (wr (wr (wr (wr (va_up (wr (wr I 65 0 0) 65 1 0) 66 Zi) 66 0 3) 66 1 3) 66 2 3) 66 3 3) 66 4 3) 66 5 3) 66 6 3) 66 7 3) 66 8 3) 66 9 3) 66 10 3) 66 11 3) 66 12 3) 66 13 3) 66 14 3) 66 15 3) 67 Zi) 68 Zi) 69 Zi) 70 Zi) 71 Zi) 72 Zi) 73 Zi) 65 10 0) 65 11 (-1)) 65 12 0) 65 13 0) 65 14 0) 74 Zi) 75 Zi) 76 Zi) 77 Zi) 78 Zi) 79 Zi) 80 Zi) 81 Zi) 65 23 0) 65 24 0) 65 25 0) 82 Zi) 82 0 111) 82 1 112) 82 2 101) 82 3 110) 82 4 115) 82 5 104) 82 6 117) 82 7 116) 82 8 102) 82 9 97) 82 10 100) 82 11 101) 83 Zi) 84 Zi) 65 29 9999) 65 30 0) 85 Zi) 86 Zi) 87 Zi) 88 Zi) 65 35 0) 89 Zi) 90 Zi) 91 Zi) 65 39 0) 65 40 0) 92 Zi) 93 Zi) 94 Zi) 95 Zi) 65 45 0) 65 46 (-1)) 65 47 0) 65 48 0) 65 49 0) 65 50 0) 65 51 0) 96 Zi) 97 Zi) 98 Zi) 99 Zi) 100 Zi) 101 Zi) 102 Zi) 103 Zi) 104 Zi) 105 Zi) 106 Zi) 107 Zi) 108 Zi) 109 Zi) 110 Zi) 65 67 0) 111 Zi) 112 Zi) 112 0 (-1)) 112 1 (-1)) 112 2 (-1)) 112 3 (-1)) 112 4 (-1)) 112 5 (-1)) 113 Zi)
def kL65 (L : TL) : TL := (va_up (va_up L 114 Zl) 115 Zl)
def kR65 (R : TR) : TR := (rput (rput (rput (rput (rput (rput (rput (rput (rput (rput (rput (rput (rput (rput (rput (rput (rput (rput (rput (rput (rput (rput (rput (rput (rput (rput (rput (rput (rput (rput (rput (rput (rput (rput (rput (rput (rput (rput (rput (rput (rput (rput (rput (rput (rput (rput (rput (rput (rput (rput R 65 2 66) 65 3 67) 65 4 68) 65 5 69) 65 6 70) 65 7 71) 65 8 72) 65 9 73) 65 15 74) 65 16 75) 65 17 76) 65 18 77) 65 19 78) 65 20 79) 65 21 80) 65 22 81) 65 26 82) 65 27 83) 65 28 84) 65 31 85) 65 32 86) 65 33 87) 65 34 88) 65 36 89) 65 37 90) 65 38 91) 65 41 92) 65 42 93) 65 43 94) 65 44 95) 65 52 96) 65 53 97) 65 54 98) 65 55 99) 65 56 100) 65 57 101) 65 58 102) 65 59 103) 65 60 104) 65 61 105) 65 62 106) 65 63 107) 65 64 108) 65 65 109) 65 66 110) 65 68 111) 65 69 112) 65 70 113) 65 71 114) 65 72 115)
def kN65 (N : TN) : TN := (va_up (va_up (va_up (va_up (va_up (va_up (va_up (va_up (va_up (va_up (va_up (va_up (va_up (va_up (va_up (va_up (va_up (va_up (va_up (va_up (va_up (va_up (va_up (va_up (va_up (va_up (va_up (va_up (va_up (va_up (va_up (va_up (va_up (va_up (va_up (va_up (va_up (va_up (va_up (va_up (va_up (va_up (va_up (va_up (va_up (va_up (va_up (va_up (va_up (va_up N 66 16) 67 6) 68 6) 69 6) 70 6) 71 6) 72 6) 73 24) 74 100) 75 6) 76 60) 77 60) 78 60) 79 60) 80 600) 81 101) 82 12) 83 100) 84 16) 85 6) 86 6) 87 6) 88 6) 89 5) 90 5) 91 5) 92 8) 93 8) 94 8) 95 8) 96 16) 97 6) 98 6) 99 6) 100 6) 101 6) 102 6) 103 24) 104 5) 105 5) 106 5) 107 8) 108 8) 109 8) 110 8) 111 20) 112 6) 113 6) 114 360) 115 60)
set_option maxRecDepth 100000 in
set_option maxHeartbeats 1000000 in
theorem c_mk65 {g : Gl} {I : Ty} {L : TL} {R : TR} {N : TN} : Ct g yX9_init cX9_init 1 none 1 50 1897 [.ref (g.1 + 65)] I L R N 66 (Ps none (kI65 I) (kL65 L) (kR65 R) (kN65 N) 116) := by
  refine ct_of (by decide +kernel) (Nat.le_of_ble_eq_true rfl) (fun F hnm hr => ?_)
  have hnm : F.2.2.2.2.2.2.2.2.1.name = "<init>" := hnm
  show V g F cX9_init RX9 1 1 0 [(0, .ref (g.1 + 65))] [] I L R N 66 50 1897
  refine v_aload_n dX9_init_0 rfl 0 rfl ?_
  refine v_obj (k := 65) ol_X9_1 oim oco dX9_init_1 (by decide) (Nat.le_of_ble_eq_true rfl) ?_
  refine v_aload_n dX9_init_4 rfl 0 rfl ?_
  refine v_iconst (v := 0) dX9_init_5 (by decide) ?_
  refine w_puti pa_X9_7 dX9_init_6 rfl (by decide) (by decide) (by show 0 < 73; decide) ((show ∀ (Ik : Nat → Int32) (Rk : Nat → Option Nat), (fld g.1 Ik Rk 8).set 0 (.int 0) = fld g.1 (va_up Ik 0 0) Rk 8 from fun _ _ => rfl) _ _) ?_
  refine v_aload_n dX9_init_9 rfl 0 rfl ?_
  refine v_iconst (v := 0) dX9_init_10 (by decide) ?_
  refine w_puti pa_X9_13 dX9_init_11 rfl (by decide) (by decide) (by show 1 < 73; decide) ((show ∀ (Ik : Nat → Int32) (Rk : Nat → Option Nat), (fld g.1 Ik Rk 8).set 1 (.int 0) = fld g.1 (va_up Ik 1 0) Rk 8 from fun _ _ => rfl) _ _) ?_
  refine v_aload_n dX9_init_14 rfl 0 rfl ?_
  refine v_bipush (v := 16) dX9_init_15 (by decide) ?_
  refine w_newi (len := 16) dX9_init_17 rfl rfl (by decide) 67 49 1881 rfl rfl rfl ?_
  refine v_dup dX9_init_19 rfl ?_
  refine v_iconst (v := 0) dX9_init_20 (by decide) ?_
  refine v_iconst (v := 3) dX9_init_21 (by decide) ?_
  refine v_iastore (len := 16) (j := 0) dX9_init_22 rfl (by decide) rfl (by decide) rfl (by omega) ?_
  refine v_dup dX9_init_23 rfl ?_
  refine v_iconst (v := 1) dX9_init_24 (by decide) ?_
  refine v_iconst (v := 3) dX9_init_25 (by decide) ?_
  refine v_iastore (len := 16) (j := 1) dX9_init_26 rfl (by decide) rfl (by decide) rfl (by omega) ?_
  refine v_dup dX9_init_27 rfl ?_
  refine v_iconst (v := 2) dX9_init_28 (by decide) ?_
  refine v_iconst (v := 3) dX9_init_29 (by decide) ?_
  refine v_iastore (len := 16) (j := 2) dX9_init_30 rfl (by decide) rfl (by decide) rfl (by omega) ?_
  refine v_dup dX9_init_31 rfl ?_
  refine v_iconst (v := 3) dX9_init_32 (by decide) ?_
  refine v_iconst (v := 3) dX9_init_33 (by decide) ?_
  refine v_iastore (len := 16) (j := 3) dX9_init_34 rfl (by decide) rfl (by decide) rfl (by omega) ?_
  refine v_dup dX9_init_35 rfl ?_
  refine v_iconst (v := 4) dX9_init_36 (by decide) ?_
  refine v_iconst (v := 3) dX9_init_37 (by decide) ?_
  refine v_iastore (len := 16) (j := 4) dX9_init_38 rfl (by decide) rfl (by decide) rfl (by omega) ?_
  refine v_dup dX9_init_39 rfl ?_
  refine v_iconst (v := 5) dX9_init_40 (by decide) ?_
  refine v_iconst (v := 3) dX9_init_41 (by decide) ?_
  refine v_iastore (len := 16) (j := 5) dX9_init_42 rfl (by decide) rfl (by decide) rfl (by omega) ?_
  refine v_dup dX9_init_43 rfl ?_
  refine v_bipush (v := 6) dX9_init_44 (by decide) ?_
  refine v_iconst (v := 3) dX9_init_46 (by decide) ?_
  refine v_iastore (len := 16) (j := 6) dX9_init_47 rfl (by decide) rfl (by decide) rfl (by omega) ?_
  refine v_dup dX9_init_48 rfl ?_
  refine v_bipush (v := 7) dX9_init_49 (by decide) ?_
  refine v_iconst (v := 3) dX9_init_51 (by decide) ?_
  refine v_iastore (len := 16) (j := 7) dX9_init_52 rfl (by decide) rfl (by decide) rfl (by omega) ?_
  refine v_dup dX9_init_53 rfl ?_
  refine v_bipush (v := 8) dX9_init_54 (by decide) ?_
  refine v_iconst (v := 3) dX9_init_56 (by decide) ?_
  refine v_iastore (len := 16) (j := 8) dX9_init_57 rfl (by decide) rfl (by decide) rfl (by omega) ?_
  refine v_dup dX9_init_58 rfl ?_
  refine v_bipush (v := 9) dX9_init_59 (by decide) ?_
  refine v_iconst (v := 3) dX9_init_61 (by decide) ?_
  refine v_iastore (len := 16) (j := 9) dX9_init_62 rfl (by decide) rfl (by decide) rfl (by omega) ?_
  refine v_dup dX9_init_63 rfl ?_
  refine v_bipush (v := 10) dX9_init_64 (by decide) ?_
  refine v_iconst (v := 3) dX9_init_66 (by decide) ?_
  refine v_iastore (len := 16) (j := 10) dX9_init_67 rfl (by decide) rfl (by decide) rfl (by omega) ?_
  refine v_dup dX9_init_68 rfl ?_
  refine v_bipush (v := 11) dX9_init_69 (by decide) ?_
  refine v_iconst (v := 3) dX9_init_71 (by decide) ?_
  refine v_iastore (len := 16) (j := 11) dX9_init_72 rfl (by decide) rfl (by decide) rfl (by omega) ?_
  refine v_dup dX9_init_73 rfl ?_
  refine v_bipush (v := 12) dX9_init_74 (by decide) ?_
  refine v_iconst (v := 3) dX9_init_76 (by decide) ?_
  refine v_iastore (len := 16) (j := 12) dX9_init_77 rfl (by decide) rfl (by decide) rfl (by omega) ?_
  refine v_dup dX9_init_78 rfl ?_
  refine v_bipush (v := 13) dX9_init_79 (by decide) ?_
  refine v_iconst (v := 3) dX9_init_81 (by decide) ?_
  refine v_iastore (len := 16) (j := 13) dX9_init_82 rfl (by decide) rfl (by decide) rfl (by omega) ?_
  refine v_dup dX9_init_83 rfl ?_
  refine v_bipush (v := 14) dX9_init_84 (by decide) ?_
  refine v_iconst (v := 3) dX9_init_86 (by decide) ?_
  refine v_iastore (len := 16) (j := 14) dX9_init_87 rfl (by decide) rfl (by decide) rfl (by omega) ?_
  refine v_dup dX9_init_88 rfl ?_
  refine v_bipush (v := 15) dX9_init_89 (by decide) ?_
  refine v_iconst (v := 3) dX9_init_91 (by decide) ?_
  refine v_iastore (len := 16) (j := 15) dX9_init_92 rfl (by decide) rfl (by decide) rfl (by omega) ?_
  refine w_putFr (t := 66) pf_X9_16 ⟨rfl, rfl⟩ hnm dX9_init_93 rfl (by decide) (by decide) (by show 2 < 73; decide) ((show ∀ (Ik : Nat → Int32) (Rk : Nat → Option Nat), (fld g.1 Ik Rk 8).set 2 (.ref (g.1 + 66)) = fld g.1 Ik (va_up Rk 2 (some 66)) 8 from fun _ _ => rfl) _ _) ?_
  refine v_aload_n dX9_init_96 rfl 0 rfl ?_
  refine v_bipush (v := 6) dX9_init_97 (by decide) ?_
  refine w_newi (len := 6) dX9_init_99 rfl rfl (by decide) 68 48 1875 rfl rfl rfl ?_
  refine w_putFr (t := 67) pf_X9_20 ⟨rfl, rfl⟩ hnm dX9_init_101 rfl (by decide) (by decide) (by show 3 < 73; decide) ((show ∀ (Ik : Nat → Int32) (Rk : Nat → Option Nat), (fld g.1 Ik Rk 8).set 3 (.ref (g.1 + 67)) = fld g.1 Ik (va_up Rk 3 (some 67)) 8 from fun _ _ => rfl) _ _) ?_
  refine v_aload_n dX9_init_104 rfl 0 rfl ?_
  refine v_bipush (v := 6) dX9_init_105 (by decide) ?_
  refine w_newi (len := 6) dX9_init_107 rfl rfl (by decide) 69 47 1869 rfl rfl rfl ?_
  refine w_putFr (t := 68) pf_X9_23 ⟨rfl, rfl⟩ hnm dX9_init_109 rfl (by decide) (by decide) (by show 4 < 73; decide) ((show ∀ (Ik : Nat → Int32) (Rk : Nat → Option Nat), (fld g.1 Ik Rk 8).set 4 (.ref (g.1 + 68)) = fld g.1 Ik (va_up Rk 4 (some 68)) 8 from fun _ _ => rfl) _ _) ?_
  refine v_aload_n dX9_init_112 rfl 0 rfl ?_
  refine v_bipush (v := 6) dX9_init_113 (by decide) ?_
  refine w_newi (len := 6) dX9_init_115 rfl rfl (by decide) 70 46 1863 rfl rfl rfl ?_
  refine w_putFr (t := 69) pf_X9_26 ⟨rfl, rfl⟩ hnm dX9_init_117 rfl (by decide) (by decide) (by show 5 < 73; decide) ((show ∀ (Ik : Nat → Int32) (Rk : Nat → Option Nat), (fld g.1 Ik Rk 8).set 5 (.ref (g.1 + 69)) = fld g.1 Ik (va_up Rk 5 (some 69)) 8 from fun _ _ => rfl) _ _) ?_
  refine v_aload_n dX9_init_120 rfl 0 rfl ?_
  refine v_bipush (v := 6) dX9_init_121 (by decide) ?_
  refine w_newi (len := 6) dX9_init_123 rfl rfl (by decide) 71 45 1857 rfl rfl rfl ?_
  refine w_putFr (t := 70) pf_X9_29 ⟨rfl, rfl⟩ hnm dX9_init_125 rfl (by decide) (by decide) (by show 6 < 73; decide) ((show ∀ (Ik : Nat → Int32) (Rk : Nat → Option Nat), (fld g.1 Ik Rk 8).set 6 (.ref (g.1 + 70)) = fld g.1 Ik (va_up Rk 6 (some 70)) 8 from fun _ _ => rfl) _ _) ?_
  refine v_aload_n dX9_init_128 rfl 0 rfl ?_
  refine v_bipush (v := 6) dX9_init_129 (by decide) ?_
  refine w_newi (len := 6) dX9_init_131 rfl rfl (by decide) 72 44 1851 rfl rfl rfl ?_
  refine w_putFr (t := 71) pf_X9_32 ⟨rfl, rfl⟩ hnm dX9_init_133 rfl (by decide) (by decide) (by show 7 < 73; decide) ((show ∀ (Ik : Nat → Int32) (Rk : Nat → Option Nat), (fld g.1 Ik Rk 8).set 7 (.ref (g.1 + 71)) = fld g.1 Ik (va_up Rk 7 (some 71)) 8 from fun _ _ => rfl) _ _) ?_
  refine v_aload_n dX9_init_136 rfl 0 rfl ?_
  refine v_bipush (v := 6) dX9_init_137 (by decide) ?_
  refine w_newi (len := 6) dX9_init_139 rfl rfl (by decide) 73 43 1845 rfl rfl rfl ?_
  refine w_putFr (t := 72) pf_X9_35 ⟨rfl, rfl⟩ hnm dX9_init_141 rfl (by decide) (by decide) (by show 8 < 73; decide) ((show ∀ (Ik : Nat → Int32) (Rk : Nat → Option Nat), (fld g.1 Ik Rk 8).set 8 (.ref (g.1 + 72)) = fld g.1 Ik (va_up Rk 8 (some 72)) 8 from fun _ _ => rfl) _ _) ?_
  refine v_aload_n dX9_init_144 rfl 0 rfl ?_
  refine v_bipush (v := 24) dX9_init_145 (by decide) ?_
  refine w_newi (len := 24) dX9_init_147 rfl rfl (by decide) 74 42 1821 rfl rfl rfl ?_
  refine w_putFr (t := 73) pf_X9_38 ⟨rfl, rfl⟩ hnm dX9_init_149 rfl (by decide) (by decide) (by show 9 < 73; decide) ((show ∀ (Ik : Nat → Int32) (Rk : Nat → Option Nat), (fld g.1 Ik Rk 8).set 9 (.ref (g.1 + 73)) = fld g.1 Ik (va_up Rk 9 (some 73)) 8 from fun _ _ => rfl) _ _) ?_
  refine v_aload_n dX9_init_152 rfl 0 rfl ?_
  refine v_iconst (v := 0) dX9_init_153 (by decide) ?_
  refine w_puti pa_X9_41 dX9_init_154 rfl (by decide) (by decide) (by show 10 < 73; decide) ((show ∀ (Ik : Nat → Int32) (Rk : Nat → Option Nat), (fld g.1 Ik Rk 8).set 10 (.int 0) = fld g.1 (va_up Ik 10 0) Rk 8 from fun _ _ => rfl) _ _) ?_
  refine v_aload_n dX9_init_157 rfl 0 rfl ?_
  refine v_iconst (v := (-1)) dX9_init_158 (by decide) ?_
  refine w_puti pa_X9_44 dX9_init_159 rfl (by decide) (by decide) (by show 11 < 73; decide) ((show ∀ (Ik : Nat → Int32) (Rk : Nat → Option Nat), (fld g.1 Ik Rk 8).set 11 (.int (-1)) = fld g.1 (va_up Ik 11 (-1)) Rk 8 from fun _ _ => rfl) _ _) ?_
  refine v_aload_n dX9_init_162 rfl 0 rfl ?_
  refine v_iconst (v := 0) dX9_init_163 (by decide) ?_
  refine w_puti pa_X9_47 dX9_init_164 rfl (by decide) (by decide) (by show 12 < 73; decide) ((show ∀ (Ik : Nat → Int32) (Rk : Nat → Option Nat), (fld g.1 Ik Rk 8).set 12 (.int 0) = fld g.1 (va_up Ik 12 0) Rk 8 from fun _ _ => rfl) _ _) ?_
  refine v_aload_n dX9_init_167 rfl 0 rfl ?_
  refine v_iconst (v := 0) dX9_init_168 (by decide) ?_
  refine w_puti pa_X9_50 dX9_init_169 rfl (by decide) (by decide) (by show 13 < 73; decide) ((show ∀ (Ik : Nat → Int32) (Rk : Nat → Option Nat), (fld g.1 Ik Rk 8).set 13 (.int 0) = fld g.1 (va_up Ik 13 0) Rk 8 from fun _ _ => rfl) _ _) ?_
  refine v_aload_n dX9_init_172 rfl 0 rfl ?_
  refine v_iconst (v := 0) dX9_init_173 (by decide) ?_
  refine w_puti pa_X9_53 dX9_init_174 rfl (by decide) (by decide) (by show 14 < 73; decide) ((show ∀ (Ik : Nat → Int32) (Rk : Nat → Option Nat), (fld g.1 Ik Rk 8).set 14 (.int 0) = fld g.1 (va_up Ik 14 0) Rk 8 from fun _ _ => rfl) _ _) ?_
  refine v_aload_n dX9_init_177 rfl 0 rfl ?_
  refine v_bipush (v := 100) dX9_init_178 (by decide) ?_
  refine w_newi (len := 100) dX9_init_180 rfl rfl (by decide) 75 41 1721 rfl rfl rfl ?_
  refine w_putFr (t := 74) pf_X9_56 ⟨rfl, rfl⟩ hnm dX9_init_182 rfl (by decide) (by decide) (by show 15 < 73; decide) ((show ∀ (Ik : Nat → Int32) (Rk : Nat → Option Nat), (fld g.1 Ik Rk 8).set 15 (.ref (g.1 + 74)) = fld g.1 Ik (va_up Rk 15 (some 74)) 8 from fun _ _ => rfl) _ _) ?_
  refine v_aload_n dX9_init_185 rfl 0 rfl ?_
  refine v_bipush (v := 6) dX9_init_186 (by decide) ?_
  refine w_newi (len := 6) dX9_init_188 rfl rfl (by decide) 76 40 1715 rfl rfl rfl ?_
  refine w_putFr (t := 75) pf_X9_59 ⟨rfl, rfl⟩ hnm dX9_init_190 rfl (by decide) (by decide) (by show 16 < 73; decide) ((show ∀ (Ik : Nat → Int32) (Rk : Nat → Option Nat), (fld g.1 Ik Rk 8).set 16 (.ref (g.1 + 75)) = fld g.1 Ik (va_up Rk 16 (some 75)) 8 from fun _ _ => rfl) _ _) ?_
  refine v_aload_n dX9_init_193 rfl 0 rfl ?_
  refine v_bipush (v := 60) dX9_init_194 (by decide) ?_
  refine w_newi (len := 60) dX9_init_196 rfl rfl (by decide) 77 39 1655 rfl rfl rfl ?_
  refine w_putFr (t := 76) pf_X9_62 ⟨rfl, rfl⟩ hnm dX9_init_198 rfl (by decide) (by decide) (by show 17 < 73; decide) ((show ∀ (Ik : Nat → Int32) (Rk : Nat → Option Nat), (fld g.1 Ik Rk 8).set 17 (.ref (g.1 + 76)) = fld g.1 Ik (va_up Rk 17 (some 76)) 8 from fun _ _ => rfl) _ _) ?_
  refine v_aload_n dX9_init_201 rfl 0 rfl ?_
  refine v_bipush (v := 60) dX9_init_202 (by decide) ?_
  refine w_newi (len := 60) dX9_init_204 rfl rfl (by decide) 78 38 1595 rfl rfl rfl ?_
  refine w_putFr (t := 77) pf_X9_65 ⟨rfl, rfl⟩ hnm dX9_init_206 rfl (by decide) (by decide) (by show 18 < 73; decide) ((show ∀ (Ik : Nat → Int32) (Rk : Nat → Option Nat), (fld g.1 Ik Rk 8).set 18 (.ref (g.1 + 77)) = fld g.1 Ik (va_up Rk 18 (some 77)) 8 from fun _ _ => rfl) _ _) ?_
  refine v_aload_n dX9_init_209 rfl 0 rfl ?_
  refine v_bipush (v := 60) dX9_init_210 (by decide) ?_
  refine w_newi (len := 60) dX9_init_212 rfl rfl (by decide) 79 37 1535 rfl rfl rfl ?_
  refine w_putFr (t := 78) pf_X9_68 ⟨rfl, rfl⟩ hnm dX9_init_214 rfl (by decide) (by decide) (by show 19 < 73; decide) ((show ∀ (Ik : Nat → Int32) (Rk : Nat → Option Nat), (fld g.1 Ik Rk 8).set 19 (.ref (g.1 + 78)) = fld g.1 Ik (va_up Rk 19 (some 78)) 8 from fun _ _ => rfl) _ _) ?_
  refine v_aload_n dX9_init_217 rfl 0 rfl ?_
  refine v_bipush (v := 60) dX9_init_218 (by decide) ?_
  refine w_newi (len := 60) dX9_init_220 rfl rfl (by decide) 80 36 1475 rfl rfl rfl ?_
  refine w_putFr (t := 79) pf_X9_71 ⟨rfl, rfl⟩ hnm dX9_init_222 rfl (by decide) (by decide) (by show 20 < 73; decide) ((show ∀ (Ik : Nat → Int32) (Rk : Nat → Option Nat), (fld g.1 Ik Rk 8).set 20 (.ref (g.1 + 79)) = fld g.1 Ik (va_up Rk 20 (some 79)) 8 from fun _ _ => rfl) _ _) ?_
  refine v_aload_n dX9_init_225 rfl 0 rfl ?_
  refine v_sipush (v := 600) dX9_init_226 (by decide) ?_
  refine w_newi (len := 600) dX9_init_229 rfl rfl (by decide) 81 35 875 rfl rfl rfl ?_
  refine w_putFr (t := 80) pf_X9_74 ⟨rfl, rfl⟩ hnm dX9_init_231 rfl (by decide) (by decide) (by show 21 < 73; decide) ((show ∀ (Ik : Nat → Int32) (Rk : Nat → Option Nat), (fld g.1 Ik Rk 8).set 21 (.ref (g.1 + 80)) = fld g.1 Ik (va_up Rk 21 (some 80)) 8 from fun _ _ => rfl) _ _) ?_
  refine v_aload_n dX9_init_234 rfl 0 rfl ?_
  refine v_bipush (v := 101) dX9_init_235 (by decide) ?_
  refine w_newi (len := 101) dX9_init_237 rfl rfl (by decide) 82 34 774 rfl rfl rfl ?_
  refine w_putFr (t := 81) pf_X9_77 ⟨rfl, rfl⟩ hnm dX9_init_239 rfl (by decide) (by decide) (by show 22 < 73; decide) ((show ∀ (Ik : Nat → Int32) (Rk : Nat → Option Nat), (fld g.1 Ik Rk 8).set 22 (.ref (g.1 + 81)) = fld g.1 Ik (va_up Rk 22 (some 81)) 8 from fun _ _ => rfl) _ _) ?_
  refine v_aload_n dX9_init_242 rfl 0 rfl ?_
  refine v_iconst (v := 0) dX9_init_243 (by decide) ?_
  refine w_puti pa_X9_80 dX9_init_244 rfl (by decide) (by decide) (by show 23 < 73; decide) ((show ∀ (Ik : Nat → Int32) (Rk : Nat → Option Nat), (fld g.1 Ik Rk 8).set 23 (.int 0) = fld g.1 (va_up Ik 23 0) Rk 8 from fun _ _ => rfl) _ _) ?_
  refine v_aload_n dX9_init_247 rfl 0 rfl ?_
  refine v_iconst (v := 0) dX9_init_248 (by decide) ?_
  refine w_puti pa_X9_83 dX9_init_249 rfl (by decide) (by decide) (by show 24 < 73; decide) ((show ∀ (Ik : Nat → Int32) (Rk : Nat → Option Nat), (fld g.1 Ik Rk 8).set 24 (.int 0) = fld g.1 (va_up Ik 24 0) Rk 8 from fun _ _ => rfl) _ _) ?_
  refine v_aload_n dX9_init_252 rfl 0 rfl ?_
  refine v_iconst (v := 0) dX9_init_253 (by decide) ?_
  refine w_puti pa_X9_86 dX9_init_254 rfl (by decide) (by decide) (by show 25 < 73; decide) ((show ∀ (Ik : Nat → Int32) (Rk : Nat → Option Nat), (fld g.1 Ik Rk 8).set 25 (.int 0) = fld g.1 (va_up Ik 25 0) Rk 8 from fun _ _ => rfl) _ _) ?_
  refine v_aload_n dX9_init_257 rfl 0 rfl ?_
  refine v_bipush (v := 12) dX9_init_258 (by decide) ?_
  refine w_newi (len := 12) dX9_init_260 rfl rfl (by decide) 83 33 762 rfl rfl rfl ?_
  refine v_dup dX9_init_262 rfl ?_
  refine v_iconst (v := 0) dX9_init_263 (by decide) ?_
  refine v_bipush (v := 111) dX9_init_264 (by decide) ?_
  refine v_iastore (len := 12) (j := 0) dX9_init_266 rfl (by decide) rfl (by decide) rfl (by omega) ?_
  refine v_dup dX9_init_267 rfl ?_
  refine v_iconst (v := 1) dX9_init_268 (by decide) ?_
  refine v_bipush (v := 112) dX9_init_269 (by decide) ?_
  refine v_iastore (len := 12) (j := 1) dX9_init_271 rfl (by decide) rfl (by decide) rfl (by omega) ?_
  refine v_dup dX9_init_272 rfl ?_
  refine v_iconst (v := 2) dX9_init_273 (by decide) ?_
  refine v_bipush (v := 101) dX9_init_274 (by decide) ?_
  refine v_iastore (len := 12) (j := 2) dX9_init_276 rfl (by decide) rfl (by decide) rfl (by omega) ?_
  refine v_dup dX9_init_277 rfl ?_
  refine v_iconst (v := 3) dX9_init_278 (by decide) ?_
  refine v_bipush (v := 110) dX9_init_279 (by decide) ?_
  refine v_iastore (len := 12) (j := 3) dX9_init_281 rfl (by decide) rfl (by decide) rfl (by omega) ?_
  refine v_dup dX9_init_282 rfl ?_
  refine v_iconst (v := 4) dX9_init_283 (by decide) ?_
  refine v_bipush (v := 115) dX9_init_284 (by decide) ?_
  refine v_iastore (len := 12) (j := 4) dX9_init_286 rfl (by decide) rfl (by decide) rfl (by omega) ?_
  refine v_dup dX9_init_287 rfl ?_
  refine v_iconst (v := 5) dX9_init_288 (by decide) ?_
  refine v_bipush (v := 104) dX9_init_289 (by decide) ?_
  refine v_iastore (len := 12) (j := 5) dX9_init_291 rfl (by decide) rfl (by decide) rfl (by omega) ?_
  refine v_dup dX9_init_292 rfl ?_
  refine v_bipush (v := 6) dX9_init_293 (by decide) ?_
  refine v_bipush (v := 117) dX9_init_295 (by decide) ?_
  refine v_iastore (len := 12) (j := 6) dX9_init_297 rfl (by decide) rfl (by decide) rfl (by omega) ?_
  refine v_dup dX9_init_298 rfl ?_
  refine v_bipush (v := 7) dX9_init_299 (by decide) ?_
  refine v_bipush (v := 116) dX9_init_301 (by decide) ?_
  refine v_iastore (len := 12) (j := 7) dX9_init_303 rfl (by decide) rfl (by decide) rfl (by omega) ?_
  refine v_dup dX9_init_304 rfl ?_
  refine v_bipush (v := 8) dX9_init_305 (by decide) ?_
  refine v_bipush (v := 102) dX9_init_307 (by decide) ?_
  refine v_iastore (len := 12) (j := 8) dX9_init_309 rfl (by decide) rfl (by decide) rfl (by omega) ?_
  refine v_dup dX9_init_310 rfl ?_
  refine v_bipush (v := 9) dX9_init_311 (by decide) ?_
  refine v_bipush (v := 97) dX9_init_313 (by decide) ?_
  refine v_iastore (len := 12) (j := 9) dX9_init_315 rfl (by decide) rfl (by decide) rfl (by omega) ?_
  refine v_dup dX9_init_316 rfl ?_
  refine v_bipush (v := 10) dX9_init_317 (by decide) ?_
  refine v_bipush (v := 100) dX9_init_319 (by decide) ?_
  refine v_iastore (len := 12) (j := 10) dX9_init_321 rfl (by decide) rfl (by decide) rfl (by omega) ?_
  refine v_dup dX9_init_322 rfl ?_
  refine v_bipush (v := 11) dX9_init_323 (by decide) ?_
  refine v_bipush (v := 101) dX9_init_325 (by decide) ?_
  refine v_iastore (len := 12) (j := 11) dX9_init_327 rfl (by decide) rfl (by decide) rfl (by omega) ?_
  refine w_putFr (t := 82) pf_X9_89 ⟨rfl, rfl⟩ hnm dX9_init_328 rfl (by decide) (by decide) (by show 26 < 73; decide) ((show ∀ (Ik : Nat → Int32) (Rk : Nat → Option Nat), (fld g.1 Ik Rk 8).set 26 (.ref (g.1 + 82)) = fld g.1 Ik (va_up Rk 26 (some 82)) 8 from fun _ _ => rfl) _ _) ?_
  refine v_aload_n dX9_init_331 rfl 0 rfl ?_
  refine v_bipush (v := 100) dX9_init_332 (by decide) ?_
  refine w_newz (len := 100) dX9_init_334 rfl rfl (by decide) 84 32 662 rfl rfl rfl ?_
  refine w_putFr (t := 83) pf_X9_92 ⟨rfl, rfl⟩ hnm dX9_init_336 rfl (by decide) (by decide) (by show 27 < 73; decide) ((show ∀ (Ik : Nat → Int32) (Rk : Nat → Option Nat), (fld g.1 Ik Rk 8).set 27 (.ref (g.1 + 83)) = fld g.1 Ik (va_up Rk 27 (some 83)) 8 from fun _ _ => rfl) _ _) ?_
  refine v_aload_n dX9_init_339 rfl 0 rfl ?_
  refine v_bipush (v := 16) dX9_init_340 (by decide) ?_
  refine w_newi (len := 16) dX9_init_342 rfl rfl (by decide) 85 31 646 rfl rfl rfl ?_
  refine w_putFr (t := 84) pf_X9_96 ⟨rfl, rfl⟩ hnm dX9_init_344 rfl (by decide) (by decide) (by show 28 < 73; decide) ((show ∀ (Ik : Nat → Int32) (Rk : Nat → Option Nat), (fld g.1 Ik Rk 8).set 28 (.ref (g.1 + 84)) = fld g.1 Ik (va_up Rk 28 (some 84)) 8 from fun _ _ => rfl) _ _) ?_
  refine v_aload_n dX9_init_347 rfl 0 rfl ?_
  refine v_sipush (v := 9999) dX9_init_348 (by decide) ?_
  refine w_puti pa_X9_99 dX9_init_351 rfl (by decide) (by decide) (by show 29 < 73; decide) ((show ∀ (Ik : Nat → Int32) (Rk : Nat → Option Nat), (fld g.1 Ik Rk 8).set 29 (.int 9999) = fld g.1 (va_up Ik 29 9999) Rk 8 from fun _ _ => rfl) _ _) ?_
  refine v_aload_n dX9_init_354 rfl 0 rfl ?_
  refine v_iconst (v := 0) dX9_init_355 (by decide) ?_
  refine w_puti pa_X9_102 dX9_init_356 rfl (by decide) (by decide) (by show 30 < 73; decide) ((show ∀ (Ik : Nat → Int32) (Rk : Nat → Option Nat), (fld g.1 Ik Rk 8).set 30 (.int 0) = fld g.1 (va_up Ik 30 0) Rk 8 from fun _ _ => rfl) _ _) ?_
  refine v_aload_n dX9_init_359 rfl 0 rfl ?_
  refine v_bipush (v := 6) dX9_init_360 (by decide) ?_
  refine w_newi (len := 6) dX9_init_362 rfl rfl (by decide) 86 30 640 rfl rfl rfl ?_
  refine w_putFr (t := 85) pf_X9_105 ⟨rfl, rfl⟩ hnm dX9_init_364 rfl (by decide) (by decide) (by show 31 < 73; decide) ((show ∀ (Ik : Nat → Int32) (Rk : Nat → Option Nat), (fld g.1 Ik Rk 8).set 31 (.ref (g.1 + 85)) = fld g.1 Ik (va_up Rk 31 (some 85)) 8 from fun _ _ => rfl) _ _) ?_
  refine v_aload_n dX9_init_367 rfl 0 rfl ?_
  refine v_bipush (v := 6) dX9_init_368 (by decide) ?_
  refine w_newi (len := 6) dX9_init_370 rfl rfl (by decide) 87 29 634 rfl rfl rfl ?_
  refine w_putFr (t := 86) pf_X9_108 ⟨rfl, rfl⟩ hnm dX9_init_372 rfl (by decide) (by decide) (by show 32 < 73; decide) ((show ∀ (Ik : Nat → Int32) (Rk : Nat → Option Nat), (fld g.1 Ik Rk 8).set 32 (.ref (g.1 + 86)) = fld g.1 Ik (va_up Rk 32 (some 86)) 8 from fun _ _ => rfl) _ _) ?_
  refine v_aload_n dX9_init_375 rfl 0 rfl ?_
  refine v_bipush (v := 6) dX9_init_376 (by decide) ?_
  refine w_newi (len := 6) dX9_init_378 rfl rfl (by decide) 88 28 628 rfl rfl rfl ?_
  refine w_putFr (t := 87) pf_X9_111 ⟨rfl, rfl⟩ hnm dX9_init_380 rfl (by decide) (by decide) (by show 33 < 73; decide) ((show ∀ (Ik : Nat → Int32) (Rk : Nat → Option Nat), (fld g.1 Ik Rk 8).set 33 (.ref (g.1 + 87)) = fld g.1 Ik (va_up Rk 33 (some 87)) 8 from fun _ _ => rfl) _ _) ?_
  refine v_aload_n dX9_init_383 rfl 0 rfl ?_
  refine v_bipush (v := 6) dX9_init_384 (by decide) ?_
  refine w_newi (len := 6) dX9_init_386 rfl rfl (by decide) 89 27 622 rfl rfl rfl ?_
  refine w_putFr (t := 88) pf_X9_114 ⟨rfl, rfl⟩ hnm dX9_init_388 rfl (by decide) (by decide) (by show 34 < 73; decide) ((show ∀ (Ik : Nat → Int32) (Rk : Nat → Option Nat), (fld g.1 Ik Rk 8).set 34 (.ref (g.1 + 88)) = fld g.1 Ik (va_up Rk 34 (some 88)) 8 from fun _ _ => rfl) _ _) ?_
  refine v_aload_n dX9_init_391 rfl 0 rfl ?_
  refine v_iconst (v := 0) dX9_init_392 (by decide) ?_
  refine w_puti pa_X9_117 dX9_init_393 rfl (by decide) (by decide) (by show 35 < 73; decide) ((show ∀ (Ik : Nat → Int32) (Rk : Nat → Option Nat), (fld g.1 Ik Rk 8).set 35 (.int 0) = fld g.1 (va_up Ik 35 0) Rk 8 from fun _ _ => rfl) _ _) ?_
  refine v_aload_n dX9_init_396 rfl 0 rfl ?_
  refine v_iconst (v := 5) dX9_init_397 (by decide) ?_
  refine w_newi (len := 5) dX9_init_398 rfl rfl (by decide) 90 26 617 rfl rfl rfl ?_
  refine w_putFr (t := 89) pf_X9_120 ⟨rfl, rfl⟩ hnm dX9_init_400 rfl (by decide) (by decide) (by show 36 < 73; decide) ((show ∀ (Ik : Nat → Int32) (Rk : Nat → Option Nat), (fld g.1 Ik Rk 8).set 36 (.ref (g.1 + 89)) = fld g.1 Ik (va_up Rk 36 (some 89)) 8 from fun _ _ => rfl) _ _) ?_
  refine v_aload_n dX9_init_403 rfl 0 rfl ?_
  refine v_iconst (v := 5) dX9_init_404 (by decide) ?_
  refine w_newi (len := 5) dX9_init_405 rfl rfl (by decide) 91 25 612 rfl rfl rfl ?_
  refine w_putFr (t := 90) pf_X9_123 ⟨rfl, rfl⟩ hnm dX9_init_407 rfl (by decide) (by decide) (by show 37 < 73; decide) ((show ∀ (Ik : Nat → Int32) (Rk : Nat → Option Nat), (fld g.1 Ik Rk 8).set 37 (.ref (g.1 + 90)) = fld g.1 Ik (va_up Rk 37 (some 90)) 8 from fun _ _ => rfl) _ _) ?_
  refine v_aload_n dX9_init_410 rfl 0 rfl ?_
  refine v_iconst (v := 5) dX9_init_411 (by decide) ?_
  refine w_newi (len := 5) dX9_init_412 rfl rfl (by decide) 92 24 607 rfl rfl rfl ?_
  refine w_putFr (t := 91) pf_X9_126 ⟨rfl, rfl⟩ hnm dX9_init_414 rfl (by decide) (by decide) (by show 38 < 73; decide) ((show ∀ (Ik : Nat → Int32) (Rk : Nat → Option Nat), (fld g.1 Ik Rk 8).set 38 (.ref (g.1 + 91)) = fld g.1 Ik (va_up Rk 38 (some 91)) 8 from fun _ _ => rfl) _ _) ?_
  refine v_aload_n dX9_init_417 rfl 0 rfl ?_
  refine v_iconst (v := 0) dX9_init_418 (by decide) ?_
  refine w_puti pa_X9_129 dX9_init_419 rfl (by decide) (by decide) (by show 39 < 73; decide) ((show ∀ (Ik : Nat → Int32) (Rk : Nat → Option Nat), (fld g.1 Ik Rk 8).set 39 (.int 0) = fld g.1 (va_up Ik 39 0) Rk 8 from fun _ _ => rfl) _ _) ?_
  refine v_aload_n dX9_init_422 rfl 0 rfl ?_
  refine v_iconst (v := 0) dX9_init_423 (by decide) ?_
  refine w_puti pa_X9_132 dX9_init_424 rfl (by decide) (by decide) (by show 40 < 73; decide) ((show ∀ (Ik : Nat → Int32) (Rk : Nat → Option Nat), (fld g.1 Ik Rk 8).set 40 (.int 0) = fld g.1 (va_up Ik 40 0) Rk 8 from fun _ _ => rfl) _ _) ?_
  refine v_aload_n dX9_init_427 rfl 0 rfl ?_
  refine v_bipush (v := 8) dX9_init_428 (by decide) ?_
  refine w_newi (len := 8) dX9_init_430 rfl rfl (by decide) 93 23 599 rfl rfl rfl ?_
  refine w_putFr (t := 92) pf_X9_135 ⟨rfl, rfl⟩ hnm dX9_init_432 rfl (by decide) (by decide) (by show 41 < 73; decide) ((show ∀ (Ik : Nat → Int32) (Rk : Nat → Option Nat), (fld g.1 Ik Rk 8).set 41 (.ref (g.1 + 92)) = fld g.1 Ik (va_up Rk 41 (some 92)) 8 from fun _ _ => rfl) _ _) ?_
  refine v_aload_n dX9_init_435 rfl 0 rfl ?_
  refine v_bipush (v := 8) dX9_init_436 (by decide) ?_
  refine w_newi (len := 8) dX9_init_438 rfl rfl (by decide) 94 22 591 rfl rfl rfl ?_
  refine w_putFr (t := 93) pf_X9_138 ⟨rfl, rfl⟩ hnm dX9_init_440 rfl (by decide) (by decide) (by show 42 < 73; decide) ((show ∀ (Ik : Nat → Int32) (Rk : Nat → Option Nat), (fld g.1 Ik Rk 8).set 42 (.ref (g.1 + 93)) = fld g.1 Ik (va_up Rk 42 (some 93)) 8 from fun _ _ => rfl) _ _) ?_
  refine v_aload_n dX9_init_443 rfl 0 rfl ?_
  refine v_bipush (v := 8) dX9_init_444 (by decide) ?_
  refine w_newi (len := 8) dX9_init_446 rfl rfl (by decide) 95 21 583 rfl rfl rfl ?_
  refine w_putFr (t := 94) pf_X9_141 ⟨rfl, rfl⟩ hnm dX9_init_448 rfl (by decide) (by decide) (by show 43 < 73; decide) ((show ∀ (Ik : Nat → Int32) (Rk : Nat → Option Nat), (fld g.1 Ik Rk 8).set 43 (.ref (g.1 + 94)) = fld g.1 Ik (va_up Rk 43 (some 94)) 8 from fun _ _ => rfl) _ _) ?_
  refine v_aload_n dX9_init_451 rfl 0 rfl ?_
  refine v_bipush (v := 8) dX9_init_452 (by decide) ?_
  refine w_newi (len := 8) dX9_init_454 rfl rfl (by decide) 96 20 575 rfl rfl rfl ?_
  refine w_putFr (t := 95) pf_X9_144 ⟨rfl, rfl⟩ hnm dX9_init_456 rfl (by decide) (by decide) (by show 44 < 73; decide) ((show ∀ (Ik : Nat → Int32) (Rk : Nat → Option Nat), (fld g.1 Ik Rk 8).set 44 (.ref (g.1 + 95)) = fld g.1 Ik (va_up Rk 44 (some 95)) 8 from fun _ _ => rfl) _ _) ?_
  refine v_aload_n dX9_init_459 rfl 0 rfl ?_
  refine v_iconst (v := 0) dX9_init_460 (by decide) ?_
  refine v_putz pa_X9_147 dX9_init_461 rfl (by decide) (by decide) rfl rfl (by show 45 < 73; decide) ((show ∀ (Ik : Nat → Int32) (Rk : Nat → Option Nat), (fld g.1 Ik Rk 8).set 45 (.int 0) = fld g.1 (va_up Ik 45 0) Rk 8 from fun _ _ => rfl) _ _) ?_
  refine v_aload_n dX9_init_464 rfl 0 rfl ?_
  refine v_iconst (v := (-1)) dX9_init_465 (by decide) ?_
  refine w_puti pa_X9_151 dX9_init_466 rfl (by decide) (by decide) (by show 46 < 73; decide) ((show ∀ (Ik : Nat → Int32) (Rk : Nat → Option Nat), (fld g.1 Ik Rk 8).set 46 (.int (-1)) = fld g.1 (va_up Ik 46 (-1)) Rk 8 from fun _ _ => rfl) _ _) ?_
  refine v_aload_n dX9_init_469 rfl 0 rfl ?_
  refine v_iconst (v := 0) dX9_init_470 (by decide) ?_
  refine w_puti pa_X9_154 dX9_init_471 rfl (by decide) (by decide) (by show 47 < 73; decide) ((show ∀ (Ik : Nat → Int32) (Rk : Nat → Option Nat), (fld g.1 Ik Rk 8).set 47 (.int 0) = fld g.1 (va_up Ik 47 0) Rk 8 from fun _ _ => rfl) _ _) ?_
  refine v_aload_n dX9_init_474 rfl 0 rfl ?_
  refine v_iconst (v := 0) dX9_init_475 (by decide) ?_
  refine w_puti pa_X9_157 dX9_init_476 rfl (by decide) (by decide) (by show 48 < 73; decide) ((show ∀ (Ik : Nat → Int32) (Rk : Nat → Option Nat), (fld g.1 Ik Rk 8).set 48 (.int 0) = fld g.1 (va_up Ik 48 0) Rk 8 from fun _ _ => rfl) _ _) ?_
  refine v_aload_n dX9_init_479 rfl 0 rfl ?_
  refine v_iconst (v := 0) dX9_init_480 (by decide) ?_
  refine w_puti pa_X9_160 dX9_init_481 rfl (by decide) (by decide) (by show 49 < 73; decide) ((show ∀ (Ik : Nat → Int32) (Rk : Nat → Option Nat), (fld g.1 Ik Rk 8).set 49 (.int 0) = fld g.1 (va_up Ik 49 0) Rk 8 from fun _ _ => rfl) _ _) ?_
  refine v_aload_n dX9_init_484 rfl 0 rfl ?_
  refine v_iconst (v := 0) dX9_init_485 (by decide) ?_
  refine w_puti pa_X9_163 dX9_init_486 rfl (by decide) (by decide) (by show 50 < 73; decide) ((show ∀ (Ik : Nat → Int32) (Rk : Nat → Option Nat), (fld g.1 Ik Rk 8).set 50 (.int 0) = fld g.1 (va_up Ik 50 0) Rk 8 from fun _ _ => rfl) _ _) ?_
  refine v_aload_n dX9_init_489 rfl 0 rfl ?_
  refine v_iconst (v := 0) dX9_init_490 (by decide) ?_
  refine w_puti pa_X9_166 dX9_init_491 rfl (by decide) (by decide) (by show 51 < 73; decide) ((show ∀ (Ik : Nat → Int32) (Rk : Nat → Option Nat), (fld g.1 Ik Rk 8).set 51 (.int 0) = fld g.1 (va_up Ik 51 0) Rk 8 from fun _ _ => rfl) _ _) ?_
  refine v_aload_n dX9_init_494 rfl 0 rfl ?_
  refine v_bipush (v := 16) dX9_init_495 (by decide) ?_
  refine w_newi (len := 16) dX9_init_497 rfl rfl (by decide) 97 19 559 rfl rfl rfl ?_
  refine w_putFr (t := 96) pf_X9_169 ⟨rfl, rfl⟩ hnm dX9_init_499 rfl (by decide) (by decide) (by show 52 < 73; decide) ((show ∀ (Ik : Nat → Int32) (Rk : Nat → Option Nat), (fld g.1 Ik Rk 8).set 52 (.ref (g.1 + 96)) = fld g.1 Ik (va_up Rk 52 (some 96)) 8 from fun _ _ => rfl) _ _) ?_
  refine v_aload_n dX9_init_502 rfl 0 rfl ?_
  refine v_bipush (v := 6) dX9_init_503 (by decide) ?_
  refine w_newi (len := 6) dX9_init_505 rfl rfl (by decide) 98 18 553 rfl rfl rfl ?_
  refine w_putFr (t := 97) pf_X9_172 ⟨rfl, rfl⟩ hnm dX9_init_507 rfl (by decide) (by decide) (by show 53 < 73; decide) ((show ∀ (Ik : Nat → Int32) (Rk : Nat → Option Nat), (fld g.1 Ik Rk 8).set 53 (.ref (g.1 + 97)) = fld g.1 Ik (va_up Rk 53 (some 97)) 8 from fun _ _ => rfl) _ _) ?_
  refine v_aload_n dX9_init_510 rfl 0 rfl ?_
  refine v_bipush (v := 6) dX9_init_511 (by decide) ?_
  refine w_newi (len := 6) dX9_init_513 rfl rfl (by decide) 99 17 547 rfl rfl rfl ?_
  refine w_putFr (t := 98) pf_X9_175 ⟨rfl, rfl⟩ hnm dX9_init_515 rfl (by decide) (by decide) (by show 54 < 73; decide) ((show ∀ (Ik : Nat → Int32) (Rk : Nat → Option Nat), (fld g.1 Ik Rk 8).set 54 (.ref (g.1 + 98)) = fld g.1 Ik (va_up Rk 54 (some 98)) 8 from fun _ _ => rfl) _ _) ?_
  refine v_aload_n dX9_init_518 rfl 0 rfl ?_
  refine v_bipush (v := 6) dX9_init_519 (by decide) ?_
  refine w_newi (len := 6) dX9_init_521 rfl rfl (by decide) 100 16 541 rfl rfl rfl ?_
  refine w_putFr (t := 99) pf_X9_178 ⟨rfl, rfl⟩ hnm dX9_init_523 rfl (by decide) (by decide) (by show 55 < 73; decide) ((show ∀ (Ik : Nat → Int32) (Rk : Nat → Option Nat), (fld g.1 Ik Rk 8).set 55 (.ref (g.1 + 99)) = fld g.1 Ik (va_up Rk 55 (some 99)) 8 from fun _ _ => rfl) _ _) ?_
  refine v_aload_n dX9_init_526 rfl 0 rfl ?_
  refine v_bipush (v := 6) dX9_init_527 (by decide) ?_
  refine w_newi (len := 6) dX9_init_529 rfl rfl (by decide) 101 15 535 rfl rfl rfl ?_
  refine w_putFr (t := 100) pf_X9_181 ⟨rfl, rfl⟩ hnm dX9_init_531 rfl (by decide) (by decide) (by show 56 < 73; decide) ((show ∀ (Ik : Nat → Int32) (Rk : Nat → Option Nat), (fld g.1 Ik Rk 8).set 56 (.ref (g.1 + 100)) = fld g.1 Ik (va_up Rk 56 (some 100)) 8 from fun _ _ => rfl) _ _) ?_
  refine v_aload_n dX9_init_534 rfl 0 rfl ?_
  refine v_bipush (v := 6) dX9_init_535 (by decide) ?_
  refine w_newi (len := 6) dX9_init_537 rfl rfl (by decide) 102 14 529 rfl rfl rfl ?_
  refine w_putFr (t := 101) pf_X9_184 ⟨rfl, rfl⟩ hnm dX9_init_539 rfl (by decide) (by decide) (by show 57 < 73; decide) ((show ∀ (Ik : Nat → Int32) (Rk : Nat → Option Nat), (fld g.1 Ik Rk 8).set 57 (.ref (g.1 + 101)) = fld g.1 Ik (va_up Rk 57 (some 101)) 8 from fun _ _ => rfl) _ _) ?_
  refine v_aload_n dX9_init_542 rfl 0 rfl ?_
  refine v_bipush (v := 6) dX9_init_543 (by decide) ?_
  refine w_newi (len := 6) dX9_init_545 rfl rfl (by decide) 103 13 523 rfl rfl rfl ?_
  refine w_putFr (t := 102) pf_X9_187 ⟨rfl, rfl⟩ hnm dX9_init_547 rfl (by decide) (by decide) (by show 58 < 73; decide) ((show ∀ (Ik : Nat → Int32) (Rk : Nat → Option Nat), (fld g.1 Ik Rk 8).set 58 (.ref (g.1 + 102)) = fld g.1 Ik (va_up Rk 58 (some 102)) 8 from fun _ _ => rfl) _ _) ?_
  refine v_aload_n dX9_init_550 rfl 0 rfl ?_
  refine v_bipush (v := 24) dX9_init_551 (by decide) ?_
  refine w_newi (len := 24) dX9_init_553 rfl rfl (by decide) 104 12 499 rfl rfl rfl ?_
  refine w_putFr (t := 103) pf_X9_190 ⟨rfl, rfl⟩ hnm dX9_init_555 rfl (by decide) (by decide) (by show 59 < 73; decide) ((show ∀ (Ik : Nat → Int32) (Rk : Nat → Option Nat), (fld g.1 Ik Rk 8).set 59 (.ref (g.1 + 103)) = fld g.1 Ik (va_up Rk 59 (some 103)) 8 from fun _ _ => rfl) _ _) ?_
  refine v_aload_n dX9_init_558 rfl 0 rfl ?_
  refine v_iconst (v := 5) dX9_init_559 (by decide) ?_
  refine w_newi (len := 5) dX9_init_560 rfl rfl (by decide) 105 11 494 rfl rfl rfl ?_
  refine w_putFr (t := 104) pf_X9_193 ⟨rfl, rfl⟩ hnm dX9_init_562 rfl (by decide) (by decide) (by show 60 < 73; decide) ((show ∀ (Ik : Nat → Int32) (Rk : Nat → Option Nat), (fld g.1 Ik Rk 8).set 60 (.ref (g.1 + 104)) = fld g.1 Ik (va_up Rk 60 (some 104)) 8 from fun _ _ => rfl) _ _) ?_
  refine v_aload_n dX9_init_565 rfl 0 rfl ?_
  refine v_iconst (v := 5) dX9_init_566 (by decide) ?_
  refine w_newi (len := 5) dX9_init_567 rfl rfl (by decide) 106 10 489 rfl rfl rfl ?_
  refine w_putFr (t := 105) pf_X9_196 ⟨rfl, rfl⟩ hnm dX9_init_569 rfl (by decide) (by decide) (by show 61 < 73; decide) ((show ∀ (Ik : Nat → Int32) (Rk : Nat → Option Nat), (fld g.1 Ik Rk 8).set 61 (.ref (g.1 + 105)) = fld g.1 Ik (va_up Rk 61 (some 105)) 8 from fun _ _ => rfl) _ _) ?_
  refine v_aload_n dX9_init_572 rfl 0 rfl ?_
  refine v_iconst (v := 5) dX9_init_573 (by decide) ?_
  refine w_newi (len := 5) dX9_init_574 rfl rfl (by decide) 107 9 484 rfl rfl rfl ?_
  refine w_putFr (t := 106) pf_X9_199 ⟨rfl, rfl⟩ hnm dX9_init_576 rfl (by decide) (by decide) (by show 62 < 73; decide) ((show ∀ (Ik : Nat → Int32) (Rk : Nat → Option Nat), (fld g.1 Ik Rk 8).set 62 (.ref (g.1 + 106)) = fld g.1 Ik (va_up Rk 62 (some 106)) 8 from fun _ _ => rfl) _ _) ?_
  refine v_aload_n dX9_init_579 rfl 0 rfl ?_
  refine v_bipush (v := 8) dX9_init_580 (by decide) ?_
  refine w_newi (len := 8) dX9_init_582 rfl rfl (by decide) 108 8 476 rfl rfl rfl ?_
  refine w_putFr (t := 107) pf_X9_202 ⟨rfl, rfl⟩ hnm dX9_init_584 rfl (by decide) (by decide) (by show 63 < 73; decide) ((show ∀ (Ik : Nat → Int32) (Rk : Nat → Option Nat), (fld g.1 Ik Rk 8).set 63 (.ref (g.1 + 107)) = fld g.1 Ik (va_up Rk 63 (some 107)) 8 from fun _ _ => rfl) _ _) ?_
  refine v_aload_n dX9_init_587 rfl 0 rfl ?_
  refine v_bipush (v := 8) dX9_init_588 (by decide) ?_
  refine w_newi (len := 8) dX9_init_590 rfl rfl (by decide) 109 7 468 rfl rfl rfl ?_
  refine w_putFr (t := 108) pf_X9_205 ⟨rfl, rfl⟩ hnm dX9_init_592 rfl (by decide) (by decide) (by show 64 < 73; decide) ((show ∀ (Ik : Nat → Int32) (Rk : Nat → Option Nat), (fld g.1 Ik Rk 8).set 64 (.ref (g.1 + 108)) = fld g.1 Ik (va_up Rk 64 (some 108)) 8 from fun _ _ => rfl) _ _) ?_
  refine v_aload_n dX9_init_595 rfl 0 rfl ?_
  refine v_bipush (v := 8) dX9_init_596 (by decide) ?_
  refine w_newi (len := 8) dX9_init_598 rfl rfl (by decide) 110 6 460 rfl rfl rfl ?_
  refine w_putFr (t := 109) pf_X9_208 ⟨rfl, rfl⟩ hnm dX9_init_600 rfl (by decide) (by decide) (by show 65 < 73; decide) ((show ∀ (Ik : Nat → Int32) (Rk : Nat → Option Nat), (fld g.1 Ik Rk 8).set 65 (.ref (g.1 + 109)) = fld g.1 Ik (va_up Rk 65 (some 109)) 8 from fun _ _ => rfl) _ _) ?_
  refine v_aload_n dX9_init_603 rfl 0 rfl ?_
  refine v_bipush (v := 8) dX9_init_604 (by decide) ?_
  refine w_newi (len := 8) dX9_init_606 rfl rfl (by decide) 111 5 452 rfl rfl rfl ?_
  refine w_putFr (t := 110) pf_X9_211 ⟨rfl, rfl⟩ hnm dX9_init_608 rfl (by decide) (by decide) (by show 66 < 73; decide) ((show ∀ (Ik : Nat → Int32) (Rk : Nat → Option Nat), (fld g.1 Ik Rk 8).set 66 (.ref (g.1 + 110)) = fld g.1 Ik (va_up Rk 66 (some 110)) 8 from fun _ _ => rfl) _ _) ?_
  refine v_aload_n dX9_init_611 rfl 0 rfl ?_
  refine v_iconst (v := 0) dX9_init_612 (by decide) ?_
  refine w_puti pa_X9_214 dX9_init_613 rfl (by decide) (by decide) (by show 67 < 73; decide) ((show ∀ (Ik : Nat → Int32) (Rk : Nat → Option Nat), (fld g.1 Ik Rk 8).set 67 (.int 0) = fld g.1 (va_up Ik 67 0) Rk 8 from fun _ _ => rfl) _ _) ?_
  refine v_aload_n dX9_init_616 rfl 0 rfl ?_
  refine v_bipush (v := 20) dX9_init_617 (by decide) ?_
  refine w_newi (len := 20) dX9_init_619 rfl rfl (by decide) 112 4 432 rfl rfl rfl ?_
  refine w_putFr (t := 111) pf_X9_217 ⟨rfl, rfl⟩ hnm dX9_init_621 rfl (by decide) (by decide) (by show 68 < 73; decide) ((show ∀ (Ik : Nat → Int32) (Rk : Nat → Option Nat), (fld g.1 Ik Rk 8).set 68 (.ref (g.1 + 111)) = fld g.1 Ik (va_up Rk 68 (some 111)) 8 from fun _ _ => rfl) _ _) ?_
  refine v_aload_n dX9_init_624 rfl 0 rfl ?_
  refine v_bipush (v := 6) dX9_init_625 (by decide) ?_
  refine w_newi (len := 6) dX9_init_627 rfl rfl (by decide) 113 3 426 rfl rfl rfl ?_
  refine v_dup dX9_init_629 rfl ?_
  refine v_iconst (v := 0) dX9_init_630 (by decide) ?_
  refine v_iconst (v := (-1)) dX9_init_631 (by decide) ?_
  refine v_iastore (len := 6) (j := 0) dX9_init_632 rfl (by decide) rfl (by decide) rfl (by omega) ?_
  refine v_dup dX9_init_633 rfl ?_
  refine v_iconst (v := 1) dX9_init_634 (by decide) ?_
  refine v_iconst (v := (-1)) dX9_init_635 (by decide) ?_
  refine v_iastore (len := 6) (j := 1) dX9_init_636 rfl (by decide) rfl (by decide) rfl (by omega) ?_
  refine v_dup dX9_init_637 rfl ?_
  refine v_iconst (v := 2) dX9_init_638 (by decide) ?_
  refine v_iconst (v := (-1)) dX9_init_639 (by decide) ?_
  refine v_iastore (len := 6) (j := 2) dX9_init_640 rfl (by decide) rfl (by decide) rfl (by omega) ?_
  refine v_dup dX9_init_641 rfl ?_
  refine v_iconst (v := 3) dX9_init_642 (by decide) ?_
  refine v_iconst (v := (-1)) dX9_init_643 (by decide) ?_
  refine v_iastore (len := 6) (j := 3) dX9_init_644 rfl (by decide) rfl (by decide) rfl (by omega) ?_
  refine v_dup dX9_init_645 rfl ?_
  refine v_iconst (v := 4) dX9_init_646 (by decide) ?_
  refine v_iconst (v := (-1)) dX9_init_647 (by decide) ?_
  refine v_iastore (len := 6) (j := 4) dX9_init_648 rfl (by decide) rfl (by decide) rfl (by omega) ?_
  refine v_dup dX9_init_649 rfl ?_
  refine v_iconst (v := 5) dX9_init_650 (by decide) ?_
  refine v_iconst (v := (-1)) dX9_init_651 (by decide) ?_
  refine v_iastore (len := 6) (j := 5) dX9_init_652 rfl (by decide) rfl (by decide) rfl (by omega) ?_
  refine w_putFr (t := 112) pf_X9_220 ⟨rfl, rfl⟩ hnm dX9_init_653 rfl (by decide) (by decide) (by show 69 < 73; decide) ((show ∀ (Ik : Nat → Int32) (Rk : Nat → Option Nat), (fld g.1 Ik Rk 8).set 69 (.ref (g.1 + 112)) = fld g.1 Ik (va_up Rk 69 (some 112)) 8 from fun _ _ => rfl) _ _) ?_
  refine v_aload_n dX9_init_656 rfl 0 rfl ?_
  refine v_bipush (v := 6) dX9_init_657 (by decide) ?_
  refine w_newi (len := 6) dX9_init_659 rfl rfl (by decide) 114 2 420 rfl rfl rfl ?_
  refine w_putFr (t := 113) pf_X9_223 ⟨rfl, rfl⟩ hnm dX9_init_661 rfl (by decide) (by decide) (by show 70 < 73; decide) ((show ∀ (Ik : Nat → Int32) (Rk : Nat → Option Nat), (fld g.1 Ik Rk 8).set 70 (.ref (g.1 + 113)) = fld g.1 Ik (va_up Rk 70 (some 113)) 8 from fun _ _ => rfl) _ _) ?_
  refine v_aload_n dX9_init_664 rfl 0 rfl ?_
  refine v_sipush (v := 360) dX9_init_665 (by decide) ?_
  refine w_newl (len := 360) dX9_init_668 rfl rfl (by decide) 115 1 60 rfl rfl rfl ?_
  refine w_putFr (t := 114) pf_X9_226 ⟨rfl, rfl⟩ hnm dX9_init_670 rfl (by decide) (by decide) (by show 71 < 73; decide) ((show ∀ (Ik : Nat → Int32) (Rk : Nat → Option Nat), (fld g.1 Ik Rk 8).set 71 (.ref (g.1 + 114)) = fld g.1 Ik (va_up Rk 71 (some 114)) 8 from fun _ _ => rfl) _ _) ?_
  refine v_aload_n dX9_init_673 rfl 0 rfl ?_
  refine v_bipush (v := 60) dX9_init_674 (by decide) ?_
  refine w_newl (len := 60) dX9_init_676 rfl rfl (by decide) 116 0 0 rfl rfl rfl ?_
  refine w_putFr (t := 115) pf_X9_230 ⟨rfl, rfl⟩ hnm dX9_init_678 rfl (by decide) (by decide) (by show 72 < 73; decide) ((show ∀ (Ik : Nat → Int32) (Rk : Nat → Option Nat), (fld g.1 Ik Rk 8).set 72 (.ref (g.1 + 115)) = fld g.1 Ik (va_up Rk 72 (some 115)) 8 from fun _ _ => rfl) _ _) ?_
  exact v_vret hr dX9_init_681 (⟨rfl, rfl, rfl, rfl, rfl, rfl⟩)
