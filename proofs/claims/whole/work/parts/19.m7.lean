section
variable {g : Gl} {F : Fx} {cc : ByteArray} {own : String} {nL d pc : Nat} {lv : List (Nat × Value)} {st : List Value} {I : Ty} {L : TL} {R : TR} {N : TN} {n kr sr : Nat}
theorem v_callVqi {index na mL dc k ci : Nat} {y : MethodName} {bytes : ByteArray} {ret : Option FieldType} {As rest : List Value} {r : Int32} {I0 : Ty} {L0 : TL} {R0 : TR} {N0 : TN} {n0 : Nat} (hl : LkV own index y bytes mL ret na ci) (hM : Ct g y bytes mL ret dc 0 0 (.ref (g.1 + k) :: As) I L R N n (Pq (some (.int r)) I0 L0 R0 N0 n0)) (hd : decode cc pc = .ok (.invokevirtual index, 3)) (hk : kd k = ci) (hn : k < n) (hna : As.length = na) (hst : st = As.reverse ++ .ref (g.1 + k) :: rest) (hrest : rest.length ≤ 4) (hdc : dc + 1 ≤ d)
    (kk : ∀ f h, V g F cc own nL d (pc + 3) lv (.int r :: rest) (scr I0 f h) L0 R0 N0 n0 kr sr) : V g F cc own nL d pc lv st I L R N n kr sr :=
  v_callV hl hM hd hk hn hna hst hrest hdc (Nat.zero_le _) (Nat.zero_le _) (fun v I' L' R' N' n' h => by obtain ⟨rfl, ⟨f, h, rfl⟩, rfl, rfl, rfl, rfl⟩ := h; exact kk f h)
theorem v_callVql {index na mL dc k ci : Nat} {y : MethodName} {bytes : ByteArray} {ret : Option FieldType} {As rest : List Value} {r : Int64} {I0 : Ty} {L0 : TL} {R0 : TR} {N0 : TN} {n0 : Nat} (hl : LkV own index y bytes mL ret na ci) (hM : Ct g y bytes mL ret dc 0 0 (.ref (g.1 + k) :: As) I L R N n (Pq (some (.long r)) I0 L0 R0 N0 n0)) (hd : decode cc pc = .ok (.invokevirtual index, 3)) (hk : kd k = ci) (hn : k < n) (hna : As.length = na) (hst : st = As.reverse ++ .ref (g.1 + k) :: rest) (hrest : rest.length ≤ 4) (hdc : dc + 1 ≤ d)
    (kk : ∀ f h, V g F cc own nL d (pc + 3) lv (.long r :: rest) (scr I0 f h) L0 R0 N0 n0 kr sr) : V g F cc own nL d pc lv st I L R N n kr sr :=
  v_callV hl hM hd hk hn hna hst hrest hdc (Nat.zero_le _) (Nat.zero_le _) (fun v I' L' R' N' n' h => by obtain ⟨rfl, ⟨f, h, rfl⟩, rfl, rfl, rfl, rfl⟩ := h; exact kk f h)
theorem v_callVqv {index na mL dc k ci : Nat} {y : MethodName} {bytes : ByteArray} {ret : Option FieldType} {As rest : List Value}  {I0 : Ty} {L0 : TL} {R0 : TR} {N0 : TN} {n0 : Nat} (hl : LkV own index y bytes mL ret na ci) (hM : Ct g y bytes mL ret dc 0 0 (.ref (g.1 + k) :: As) I L R N n (Pq none I0 L0 R0 N0 n0)) (hd : decode cc pc = .ok (.invokevirtual index, 3)) (hk : kd k = ci) (hn : k < n) (hna : As.length = na) (hst : st = As.reverse ++ .ref (g.1 + k) :: rest) (hrest : rest.length ≤ 4) (hdc : dc + 1 ≤ d)
    (kk : ∀ f h, V g F cc own nL d (pc + 3) lv rest (scr I0 f h) L0 R0 N0 n0 kr sr) : V g F cc own nL d pc lv st I L R N n kr sr :=
  v_callV hl hM hd hk hn hna hst hrest hdc (Nat.zero_le _) (Nat.zero_le _) (fun v I' L' R' N' n' h => by obtain ⟨rfl, ⟨f, h, rfl⟩, rfl, rfl, rfl, rfl⟩ := h; exact kk f h)
end
/-- how welcome, where the sum is n -/
noncomputable def welV (kd vv sp ch rw : Nat → Int32) (pp : Nat) (n : Int32) (p c : Nat) : Int32 :=
  ifc (kd p = 1) (n + vv p) (ifc (kd p = 2) (n / 2 + 1) (ifc (kd p = 3) (ifc (nI c < vv p) 9 n) (ifc (kd p = 4) (ifc (∃ o, o < pp ∧ o ≠ p ∧ sp o = nI c) (n + vv p - 8) (n + vv p)) (ifc (kd p = 5) (n / 2 + 1 + nI (bitc (ch p) 16 / 2)) (ifc (kd p = 6) (ifc (nI c < vv p) 9 n + rw (4 * p + c % 4) - 4) n)))))
noncomputable def mwel (I : Ty) (pp p c : Nat) : Int32 := welV (I 67) (I 68) (I 69) (I 71) (I 73) pp (msum I (fctM I p c) (I 66 c)) p c
theorem mwel_scr (I : Ty) (f h : Nat → Int32) (pp p c : Nat) : mwel (scr I f h) pp p c = mwel I pp p c := rfl
set_option maxRecDepth 100000 in
set_option maxHeartbeats 2000000 in
theorem c_X9_welcomeOf {g : Gl} {I : Ty} {L : TL} {na nt ni m : Nat} {nl : Nat → Nat} (p : Nat) (c : Nat) (pp : Nat) (hpp : pp ≤ 6) (hpe : I 65 0 = nI pp) (hp : p < 6) (hc : c < 16) (hN : mOK I) : Ct g yX9_welcomeOf cX9_welcomeOf 5 (some .int) 3 0 0 [.ref (g.1 + 65), .int (nI p), .int (nI c)] I L (RT na nt ni) (NT nl) (NB + m) (Pq (some (.int (mwel I pp p c))) I L (RT na nt ni) (NT nl) (NB + m)) := by
  refine ct_of (by decide +kernel) (Nat.le_of_ble_eq_true rfl) (fun F hnm hr => ?_)
  clear hnm
  show V g F cX9_welcomeOf RX9 5 3 0 [(0, .ref (g.1 + 65)), (1, .int (nI p)), (2, .int (nI c))] [] I L (RT na nt ni) (NT nl) (NB + m) 0 0
  have hbc := bitc_le (I 71 p) 16
  refine v_aload_n dX9_welcomeOf_0 rfl 0 rfl ?_
  refine v_iload_n dX9_welcomeOf_1 rfl 1 rfl ?_
  refine v_iload_n dX9_welcomeOf_2 rfl 2 rfl ?_
  refine v_callVqi (As := [.int (nI p), .int (nI c)]) (rest := []) lk_X9_308 (c_X9_sum p c hp hc hN) dX9_welcomeOf_3 rfl (ltn rfl) rfl rfl (Nat.le_of_ble_eq_true rfl) (by decide) (fun fq1 hq2 => ?_)
  refine v_topi (fun sm hsm => ?_)
  refine v_istore_n (lv2 := [(3, .int sm), (0, .ref (g.1 + 65)), (1, .int (nI p)), (2, .int (nI c))]) dX9_welcomeOf_6 rfl (by decide) rfl ?_
  refine v_iload_n dX9_welcomeOf_7 rfl 3 rfl ?_
  refine v_aload_n dX9_welcomeOf_8 rfl 1 rfl ?_
  refine v_get (v := .ref (g.1 + 68)) fa_X9_23 dX9_welcomeOf_9 rfl (by decide) (ltn rfl) rfl ?_
  refine v_iload_n dX9_welcomeOf_12 rfl 2 rfl ?_
  refine v_iaload (len := 6) (j := p) dX9_welcomeOf_13 rfl (ltn rfl) rfl (by decide) rfl (by omega) ?_
  refine v_is (y := I 68 p) (by rfl) ?_
  refine v_icmp_ge (tgt := 22) dX9_welcomeOf_14 (by decide) (fun h3 => ?_) (fun h3 => ?_)
  · -- nI c ge I 68 p
    have h3n := Int32.not_lt.mpr h3
    refine v_iload_n dX9_welcomeOf_22 rfl 0 rfl ?_
    refine v_istore (lv2 := [(4, .int sm), (3, .int sm), (0, .ref (g.1 + 65)), (1, .int (nI p)), (2, .int (nI c))]) dX9_welcomeOf_23 (by decide) rfl ?_
    refine v_aload_n dX9_welcomeOf_25 rfl 2 rfl ?_
    refine v_get (v := .ref (g.1 + 67)) fa_X9_20 dX9_welcomeOf_26 rfl (by decide) (ltn rfl) rfl ?_
    refine v_iload_n dX9_welcomeOf_29 rfl 3 rfl ?_
    refine v_iaload (len := 6) (j := p) dX9_welcomeOf_30 rfl (ltn rfl) rfl (by decide) rfl (by omega) ?_
    refine v_is (y := I 67 p) (by rfl) ?_
    by_cases k4_1 : I 67 p = 1
    · refine v_is k4_1 ?_
      refine v_tabIn (off := 37) (tgt := 68) dX9_welcomeOf_31 (by decide) (by decide) (by decide) (by decide) ?_
      refine v_iload_n dX9_welcomeOf_68 rfl 1 rfl ?_
      refine v_aload_n dX9_welcomeOf_69 rfl 2 rfl ?_
      refine v_get (v := .ref (g.1 + 68)) fa_X9_23 dX9_welcomeOf_70 rfl (by decide) (ltn rfl) rfl ?_
      refine v_iload_n dX9_welcomeOf_73 rfl 3 rfl ?_
      refine v_iaload (len := 6) (j := p) dX9_welcomeOf_74 rfl (ltn rfl) rfl (by decide) rfl (by omega) ?_
      refine v_is (y := I 68 p) (by rfl) ?_
      refine v_iadd dX9_welcomeOf_75 ?_
      exact v_iret hr dX9_welcomeOf_76 (⟨congrArg (fun z => some (Value.int z)) (by unfold mwel welV; rw [← hsm]; first | rfl | (simp only [bq, ifc_T, ifc_F, inr_m1, and_true, true_and, and_false, false_and, or_true, true_or, or_false, false_or, not_true_eq_false, not_false_eq_true, and_self, or_self, h3, h3n, k4_1]; done) | (simp [bq, ifc_T, ifc_F, inr_m1, h3, h3n, k4_1]; done) | ((try simp only [bq]); repeat (first | rfl | (refine eq_t ?_ ?_; focus (first | omega | assumption | (simp [inr_m1, h3, h3n, k4_1]; done) | (simp [inr_m1, h3, h3n, k4_1]; omega) | (clear hr; (try clear hkn); simp_all; done))) | (refine eq_f ?_ ?_; focus (first | omega | assumption | (simp [inr_m1, h3, h3n, k4_1]; done) | (simp [inr_m1, h3, h3n, k4_1]; omega) | (clear hr; (try clear hkn); simp_all; done))) | (exfalso; clear hr; (try clear hkn); simp_all; done)))), ⟨_, _, rfl⟩, rfl, rfl, rfl, rfl⟩)
    by_cases k4_2 : I 67 p = 2
    · refine v_is k4_2 ?_
      refine v_tabIn (off := 46) (tgt := 77) dX9_welcomeOf_31 (by decide) (by decide) (by decide) (by decide) ?_
      refine v_iload_n dX9_welcomeOf_77 rfl 1 rfl ?_
      refine v_iconst (v := 2) dX9_welcomeOf_78 (by decide) ?_
      refine v_idiv dX9_welcomeOf_79 (by decide) ?_
      refine v_iconst (v := 1) dX9_welcomeOf_80 (by decide) ?_
      refine v_iadd dX9_welcomeOf_81 ?_
      exact v_iret hr dX9_welcomeOf_82 (⟨congrArg (fun z => some (Value.int z)) (by unfold mwel welV; rw [← hsm]; first | rfl | (simp only [bq, ifc_T, ifc_F, inr_m1, and_true, true_and, and_false, false_and, or_true, true_or, or_false, false_or, not_true_eq_false, not_false_eq_true, and_self, or_self, h3, h3n, k4_2]; done) | (simp [bq, ifc_T, ifc_F, inr_m1, h3, h3n, k4_2]; done) | ((try simp only [bq]); repeat (first | rfl | (refine eq_t ?_ ?_; focus (first | omega | assumption | (simp [inr_m1, h3, h3n, k4_2]; done) | (simp [inr_m1, h3, h3n, k4_2]; omega) | (clear hr; (try clear hkn); simp_all; done))) | (refine eq_f ?_ ?_; focus (first | omega | assumption | (simp [inr_m1, h3, h3n, k4_2]; done) | (simp [inr_m1, h3, h3n, k4_2]; omega) | (clear hr; (try clear hkn); simp_all; done))) | (exfalso; clear hr; (try clear hkn); simp_all; done)))), ⟨_, _, rfl⟩, rfl, rfl, rfl, rfl⟩)
    by_cases k4_3 : I 67 p = 3
    · refine v_is k4_3 ?_
      refine v_tabIn (off := 52) (tgt := 83) dX9_welcomeOf_31 (by decide) (by decide) (by decide) (by decide) ?_
      refine v_iload dX9_welcomeOf_83 0 rfl ?_
      exact v_iret hr dX9_welcomeOf_85 (⟨congrArg (fun z => some (Value.int z)) (by unfold mwel welV; rw [← hsm]; first | rfl | (simp only [bq, ifc_T, ifc_F, inr_m1, and_true, true_and, and_false, false_and, or_true, true_or, or_false, false_or, not_true_eq_false, not_false_eq_true, and_self, or_self, h3, h3n, k4_3]; done) | (simp [bq, ifc_T, ifc_F, inr_m1, h3, h3n, k4_3]; done) | ((try simp only [bq]); repeat (first | rfl | (refine eq_t ?_ ?_; focus (first | omega | assumption | (simp [inr_m1, h3, h3n, k4_3]; done) | (simp [inr_m1, h3, h3n, k4_3]; omega) | (clear hr; (try clear hkn); simp_all; done))) | (refine eq_f ?_ ?_; focus (first | omega | assumption | (simp [inr_m1, h3, h3n, k4_3]; done) | (simp [inr_m1, h3, h3n, k4_3]; omega) | (clear hr; (try clear hkn); simp_all; done))) | (exfalso; clear hr; (try clear hkn); simp_all; done)))), ⟨_, _, rfl⟩, rfl, rfl, rfl, rfl⟩)
    by_cases k4_4 : I 67 p = 4
    · refine v_is k4_4 ?_
      refine v_tabIn (off := 55) (tgt := 86) dX9_welcomeOf_31 (by decide) (by decide) (by decide) (by decide) ?_
      refine v_aload_n dX9_welcomeOf_86 rfl 2 rfl ?_
      refine v_iload_n dX9_welcomeOf_87 rfl 3 rfl ?_
      refine v_iload_n dX9_welcomeOf_88 rfl 4 rfl ?_
      refine v_callVi (As := [.int (nI p), .int (nI c)]) (rest := []) lk_X9_312 (c_X9_isOtherAt (I := (scr I fq1 hq2)) p c pp hpp hpe hp hc) dX9_welcomeOf_89 rfl (ltn rfl) rfl rfl (Nat.le_of_ble_eq_true rfl) (by decide) ?_
      refine v_ifb_eq (tgt := 109) dX9_welcomeOf_92 (by decide) (fun h5 => ?_) (fun h5 => ?_)
      · -- not (∃ o, o < pp ∧ o ≠ p ∧ I 69 o = nI c)
        refine v_iload_n dX9_welcomeOf_109 rfl 1 rfl ?_
        refine v_aload_n dX9_welcomeOf_110 rfl 2 rfl ?_
        refine v_get (v := .ref (g.1 + 68)) fa_X9_23 dX9_welcomeOf_111 rfl (by decide) (ltn rfl) rfl ?_
        refine v_iload_n dX9_welcomeOf_114 rfl 3 rfl ?_
        refine v_iaload (len := 6) (j := p) dX9_welcomeOf_115 rfl (ltn rfl) rfl (by decide) rfl (by omega) ?_
        refine v_is (y := I 68 p) (by rfl) ?_
        refine v_iadd dX9_welcomeOf_116 ?_
        exact v_iret hr dX9_welcomeOf_117 (⟨congrArg (fun z => some (Value.int z)) (by unfold mwel welV; rw [← hsm]; first | rfl | (simp only [bq, ifc_T, ifc_F, inr_m1, and_true, true_and, and_false, false_and, or_true, true_or, or_false, false_or, not_true_eq_false, not_false_eq_true, and_self, or_self, h3, h3n, k4_4, h5]; done) | (simp [bq, ifc_T, ifc_F, inr_m1, h3, h3n, k4_4, h5]; done) | ((try simp only [bq]); repeat (first | rfl | (refine eq_t ?_ ?_; focus (first | omega | assumption | (simp [inr_m1, h3, h3n, k4_4, h5]; done) | (simp [inr_m1, h3, h3n, k4_4, h5]; omega) | (clear hr; (try clear hkn); simp_all; done))) | (refine eq_f ?_ ?_; focus (first | omega | assumption | (simp [inr_m1, h3, h3n, k4_4, h5]; done) | (simp [inr_m1, h3, h3n, k4_4, h5]; omega) | (clear hr; (try clear hkn); simp_all; done))) | (exfalso; clear hr; (try clear hkn); simp_all; done)))), ⟨_, _, rfl⟩, rfl, rfl, rfl, rfl⟩)
      · -- (∃ o, o < pp ∧ o ≠ p ∧ I 69 o = nI c)
        refine v_iload_n dX9_welcomeOf_95 rfl 1 rfl ?_
        refine v_aload_n dX9_welcomeOf_96 rfl 2 rfl ?_
        refine v_get (v := .ref (g.1 + 68)) fa_X9_23 dX9_welcomeOf_97 rfl (by decide) (ltn rfl) rfl ?_
        refine v_iload_n dX9_welcomeOf_100 rfl 3 rfl ?_
        refine v_iaload (len := 6) (j := p) dX9_welcomeOf_101 rfl (ltn rfl) rfl (by decide) rfl (by omega) ?_
        refine v_is (y := I 68 p) (by rfl) ?_
        refine v_iadd dX9_welcomeOf_102 ?_
        refine v_bipush (v := 8) dX9_welcomeOf_103 (by decide) ?_
        refine v_isub dX9_welcomeOf_105 ?_
        refine v_goto (tgt := 117) dX9_welcomeOf_106 (by decide) ?_
        exact v_iret hr dX9_welcomeOf_117 (⟨congrArg (fun z => some (Value.int z)) (by unfold mwel welV; rw [← hsm]; first | rfl | (simp only [bq, ifc_T, ifc_F, inr_m1, and_true, true_and, and_false, false_and, or_true, true_or, or_false, false_or, not_true_eq_false, not_false_eq_true, and_self, or_self, h3, h3n, k4_4, h5]; done) | (simp [bq, ifc_T, ifc_F, inr_m1, h3, h3n, k4_4, h5]; done) | ((try simp only [bq]); repeat (first | rfl | (refine eq_t ?_ ?_; focus (first | omega | assumption | (simp [inr_m1, h3, h3n, k4_4, h5]; done) | (simp [inr_m1, h3, h3n, k4_4, h5]; omega) | (clear hr; (try clear hkn); simp_all; done))) | (refine eq_f ?_ ?_; focus (first | omega | assumption | (simp [inr_m1, h3, h3n, k4_4, h5]; done) | (simp [inr_m1, h3, h3n, k4_4, h5]; omega) | (clear hr; (try clear hkn); simp_all; done))) | (exfalso; clear hr; (try clear hkn); simp_all; done)))), ⟨_, _, rfl⟩, rfl, rfl, rfl, rfl⟩)
    by_cases k4_5 : I 67 p = 5
    · refine v_is k4_5 ?_
      refine v_tabIn (off := 87) (tgt := 118) dX9_welcomeOf_31 (by decide) (by decide) (by decide) (by decide) ?_
      refine v_iload_n dX9_welcomeOf_118 rfl 1 rfl ?_
      refine v_iconst (v := 2) dX9_welcomeOf_119 (by decide) ?_
      refine v_idiv dX9_welcomeOf_120 (by decide) ?_
      refine v_iconst (v := 1) dX9_welcomeOf_121 (by decide) ?_
      refine v_iadd dX9_welcomeOf_122 ?_
      refine v_aload_n dX9_welcomeOf_123 rfl 2 rfl ?_
      refine v_aload_n dX9_welcomeOf_124 rfl 2 rfl ?_
      refine v_get (v := .ref (g.1 + 71)) fa_X9_32 dX9_welcomeOf_125 rfl (by decide) (ltn rfl) rfl ?_
      refine v_iload_n dX9_welcomeOf_128 rfl 3 rfl ?_
      refine v_iaload (len := 6) (j := p) dX9_welcomeOf_129 rfl (ltn rfl) rfl (by decide) rfl (by omega) ?_
      refine v_is (y := I 71 p) (by rfl) ?_
      refine v_callVi (As := [.int (I 71 p)]) (rest := [.int ((sm / 2) + 1)]) lk_X9_315 (c_X9_bits (I 71 p)) dX9_welcomeOf_130 rfl (ltn rfl) rfl rfl (Nat.le_of_ble_eq_true rfl) (by decide) ?_
      refine v_iconst (v := 2) dX9_welcomeOf_133 (by decide) ?_
      refine v_idiv dX9_welcomeOf_134 (by decide) ?_
      refine v_is (nx_div rfl (d := 2) (by omega) (by decide) (by decide)) ?_
      refine v_iadd dX9_welcomeOf_135 ?_
      exact v_iret hr dX9_welcomeOf_136 (⟨congrArg (fun z => some (Value.int z)) (by unfold mwel welV; rw [← hsm]; first | rfl | (simp only [bq, ifc_T, ifc_F, inr_m1, and_true, true_and, and_false, false_and, or_true, true_or, or_false, false_or, not_true_eq_false, not_false_eq_true, and_self, or_self, h3, h3n, k4_5]; done) | (simp [bq, ifc_T, ifc_F, inr_m1, h3, h3n, k4_5]; done) | ((try simp only [bq]); repeat (first | rfl | (refine eq_t ?_ ?_; focus (first | omega | assumption | (simp [inr_m1, h3, h3n, k4_5]; done) | (simp [inr_m1, h3, h3n, k4_5]; omega) | (clear hr; (try clear hkn); simp_all; done))) | (refine eq_f ?_ ?_; focus (first | omega | assumption | (simp [inr_m1, h3, h3n, k4_5]; done) | (simp [inr_m1, h3, h3n, k4_5]; omega) | (clear hr; (try clear hkn); simp_all; done))) | (exfalso; clear hr; (try clear hkn); simp_all; done)))), ⟨_, _, rfl⟩, rfl, rfl, rfl, rfl⟩)
    by_cases k4_6 : I 67 p = 6
    · refine v_is k4_6 ?_
      refine v_tabIn (off := 106) (tgt := 137) dX9_welcomeOf_31 (by decide) (by decide) (by decide) (by decide) ?_
      refine v_iload dX9_welcomeOf_137 0 rfl ?_
      refine v_aload_n dX9_welcomeOf_139 rfl 2 rfl ?_
      refine v_get (v := .ref (g.1 + 73)) fa_X9_38 dX9_welcomeOf_140 rfl (by decide) (ltn rfl) rfl ?_
      refine v_iconst (v := 4) dX9_welcomeOf_143 (by decide) ?_
      refine v_iload_n dX9_welcomeOf_144 rfl 3 rfl ?_
      refine v_imul dX9_welcomeOf_145 ?_
      refine v_is (nx_mul rfl rfl) ?_
      refine v_iload_n dX9_welcomeOf_146 rfl 4 rfl ?_
      refine v_iconst (v := 4) dX9_welcomeOf_147 (by decide) ?_
      refine v_irem dX9_welcomeOf_148 (by decide) ?_
      refine v_is (nx_rem rfl (d := 4) (by omega) (by decide) (by decide)) ?_
      refine v_iadd dX9_welcomeOf_149 ?_
      refine v_is (nx_add rfl rfl) ?_
      refine v_iaload (len := 24) (j := ((4 * p) + (c % 4))) dX9_welcomeOf_150 rfl (ltn rfl) rfl (by decide) rfl (by omega) ?_
      refine v_is (y := I 73 ((4 * p) + (c % 4))) (by rfl) ?_
      refine v_iadd dX9_welcomeOf_151 ?_
      refine v_iconst (v := 4) dX9_welcomeOf_152 (by decide) ?_
      refine v_isub dX9_welcomeOf_153 ?_
      exact v_iret hr dX9_welcomeOf_154 (⟨congrArg (fun z => some (Value.int z)) (by unfold mwel welV; rw [← hsm]; first | rfl | (simp only [bq, ifc_T, ifc_F, inr_m1, and_true, true_and, and_false, false_and, or_true, true_or, or_false, false_or, not_true_eq_false, not_false_eq_true, and_self, or_self, h3, h3n, k4_6]; done) | (simp [bq, ifc_T, ifc_F, inr_m1, h3, h3n, k4_6]; done) | ((try simp only [bq]); repeat (first | rfl | (refine eq_t ?_ ?_; focus (first | omega | assumption | (simp [inr_m1, h3, h3n, k4_6]; done) | (simp [inr_m1, h3, h3n, k4_6]; omega) | (clear hr; (try clear hkn); simp_all; done))) | (refine eq_f ?_ ?_; focus (first | omega | assumption | (simp [inr_m1, h3, h3n, k4_6]; done) | (simp [inr_m1, h3, h3n, k4_6]; omega) | (clear hr; (try clear hkn); simp_all; done))) | (exfalso; clear hr; (try clear hkn); simp_all; done)))), ⟨_, _, rfl⟩, rfl, rfl, rfl, rfl⟩)
    have t6 : (I 67 p).toInt < 1 ∨ 6 < (I 67 p).toInt := by
      rcases sw_out (I 67 p) (1) (6) with h | h | ⟨ha, hb⟩
      · exact Or.inl h
      · exact Or.inr h
      · exfalso
        have hz : ∀ z : Int, 1 ≤ z → z ≤ 6 → z = 1 ∨ z = 2 ∨ z = 3 ∨ z = 4 ∨ z = 5 ∨ z = 6 := by omega
        rcases hz _ ha hb with e | e | e | e | e | e
        · exact absurd (sw_eq (k := 1) e (by decide)) k4_1
        · exact absurd (sw_eq (k := 2) e (by decide)) k4_2
        · exact absurd (sw_eq (k := 3) e (by decide)) k4_3
        · exact absurd (sw_eq (k := 4) e (by decide)) k4_4
        · exact absurd (sw_eq (k := 5) e (by decide)) k4_5
        · exact absurd (sw_eq (k := 6) e (by decide)) k4_6
    refine v_tabOut (tgt := 155) dX9_welcomeOf_31 t6 (by decide) ?_
    refine v_iload_n dX9_welcomeOf_155 rfl 1 rfl ?_
    exact v_iret hr dX9_welcomeOf_156 (⟨congrArg (fun z => some (Value.int z)) (by unfold mwel welV; rw [← hsm]; first | rfl | (simp only [bq, ifc_T, ifc_F, inr_m1, and_true, true_and, and_false, false_and, or_true, true_or, or_false, false_or, not_true_eq_false, not_false_eq_true, and_self, or_self, h3, h3n, k4_1, k4_2, k4_3, k4_4, k4_5, k4_6]; done) | (simp [bq, ifc_T, ifc_F, inr_m1, h3, h3n, k4_1, k4_2, k4_3, k4_4, k4_5, k4_6]; done) | ((try simp only [bq]); repeat (first | rfl | (refine eq_t ?_ ?_; focus (first | omega | assumption | (simp [inr_m1, h3, h3n, k4_1, k4_2, k4_3, k4_4, k4_5, k4_6]; done) | (simp [inr_m1, h3, h3n, k4_1, k4_2, k4_3, k4_4, k4_5, k4_6]; omega) | (clear hr; (try clear hkn); simp_all; done))) | (refine eq_f ?_ ?_; focus (first | omega | assumption | (simp [inr_m1, h3, h3n, k4_1, k4_2, k4_3, k4_4, k4_5, k4_6]; done) | (simp [inr_m1, h3, h3n, k4_1, k4_2, k4_3, k4_4, k4_5, k4_6]; omega) | (clear hr; (try clear hkn); simp_all; done))) | (exfalso; clear hr; (try clear hkn); simp_all; done)))), ⟨_, _, rfl⟩, rfl, rfl, rfl, rfl⟩)
  · -- nI c lt I 68 p
    have h3n := Int32.not_le.mp h3
    refine v_bipush (v := 9) dX9_welcomeOf_17 (by decide) ?_
    refine v_goto (tgt := 23) dX9_welcomeOf_19 (by decide) ?_
    refine v_istore (lv2 := [(4, .int 9), (3, .int sm), (0, .ref (g.1 + 65)), (1, .int (nI p)), (2, .int (nI c))]) dX9_welcomeOf_23 (by decide) rfl ?_
    refine v_aload_n dX9_welcomeOf_25 rfl 2 rfl ?_
    refine v_get (v := .ref (g.1 + 67)) fa_X9_20 dX9_welcomeOf_26 rfl (by decide) (ltn rfl) rfl ?_
    refine v_iload_n dX9_welcomeOf_29 rfl 3 rfl ?_
    refine v_iaload (len := 6) (j := p) dX9_welcomeOf_30 rfl (ltn rfl) rfl (by decide) rfl (by omega) ?_
    refine v_is (y := I 67 p) (by rfl) ?_
    by_cases k7_1 : I 67 p = 1
    · refine v_is k7_1 ?_
      refine v_tabIn (off := 37) (tgt := 68) dX9_welcomeOf_31 (by decide) (by decide) (by decide) (by decide) ?_
      refine v_iload_n dX9_welcomeOf_68 rfl 1 rfl ?_
      refine v_aload_n dX9_welcomeOf_69 rfl 2 rfl ?_
      refine v_get (v := .ref (g.1 + 68)) fa_X9_23 dX9_welcomeOf_70 rfl (by decide) (ltn rfl) rfl ?_
      refine v_iload_n dX9_welcomeOf_73 rfl 3 rfl ?_
      refine v_iaload (len := 6) (j := p) dX9_welcomeOf_74 rfl (ltn rfl) rfl (by decide) rfl (by omega) ?_
      refine v_is (y := I 68 p) (by rfl) ?_
      refine v_iadd dX9_welcomeOf_75 ?_
      exact v_iret hr dX9_welcomeOf_76 (⟨congrArg (fun z => some (Value.int z)) (by unfold mwel welV; rw [← hsm]; first | rfl | (simp only [bq, ifc_T, ifc_F, inr_m1, and_true, true_and, and_false, false_and, or_true, true_or, or_false, false_or, not_true_eq_false, not_false_eq_true, and_self, or_self, h3, h3n, k7_1]; done) | (simp [bq, ifc_T, ifc_F, inr_m1, h3, h3n, k7_1]; done) | ((try simp only [bq]); repeat (first | rfl | (refine eq_t ?_ ?_; focus (first | omega | assumption | (simp [inr_m1, h3, h3n, k7_1]; done) | (simp [inr_m1, h3, h3n, k7_1]; omega) | (clear hr; (try clear hkn); simp_all; done))) | (refine eq_f ?_ ?_; focus (first | omega | assumption | (simp [inr_m1, h3, h3n, k7_1]; done) | (simp [inr_m1, h3, h3n, k7_1]; omega) | (clear hr; (try clear hkn); simp_all; done))) | (exfalso; clear hr; (try clear hkn); simp_all; done)))), ⟨_, _, rfl⟩, rfl, rfl, rfl, rfl⟩)
    by_cases k7_2 : I 67 p = 2
    · refine v_is k7_2 ?_
      refine v_tabIn (off := 46) (tgt := 77) dX9_welcomeOf_31 (by decide) (by decide) (by decide) (by decide) ?_
      refine v_iload_n dX9_welcomeOf_77 rfl 1 rfl ?_
      refine v_iconst (v := 2) dX9_welcomeOf_78 (by decide) ?_
      refine v_idiv dX9_welcomeOf_79 (by decide) ?_
      refine v_iconst (v := 1) dX9_welcomeOf_80 (by decide) ?_
      refine v_iadd dX9_welcomeOf_81 ?_
      exact v_iret hr dX9_welcomeOf_82 (⟨congrArg (fun z => some (Value.int z)) (by unfold mwel welV; rw [← hsm]; first | rfl | (simp only [bq, ifc_T, ifc_F, inr_m1, and_true, true_and, and_false, false_and, or_true, true_or, or_false, false_or, not_true_eq_false, not_false_eq_true, and_self, or_self, h3, h3n, k7_2]; done) | (simp [bq, ifc_T, ifc_F, inr_m1, h3, h3n, k7_2]; done) | ((try simp only [bq]); repeat (first | rfl | (refine eq_t ?_ ?_; focus (first | omega | assumption | (simp [inr_m1, h3, h3n, k7_2]; done) | (simp [inr_m1, h3, h3n, k7_2]; omega) | (clear hr; (try clear hkn); simp_all; done))) | (refine eq_f ?_ ?_; focus (first | omega | assumption | (simp [inr_m1, h3, h3n, k7_2]; done) | (simp [inr_m1, h3, h3n, k7_2]; omega) | (clear hr; (try clear hkn); simp_all; done))) | (exfalso; clear hr; (try clear hkn); simp_all; done)))), ⟨_, _, rfl⟩, rfl, rfl, rfl, rfl⟩)
    by_cases k7_3 : I 67 p = 3
    · refine v_is k7_3 ?_
      refine v_tabIn (off := 52) (tgt := 83) dX9_welcomeOf_31 (by decide) (by decide) (by decide) (by decide) ?_
      refine v_iload dX9_welcomeOf_83 0 rfl ?_
      exact v_iret hr dX9_welcomeOf_85 (⟨congrArg (fun z => some (Value.int z)) (by unfold mwel welV; rw [← hsm]; first | rfl | (simp only [bq, ifc_T, ifc_F, inr_m1, and_true, true_and, and_false, false_and, or_true, true_or, or_false, false_or, not_true_eq_false, not_false_eq_true, and_self, or_self, h3, h3n, k7_3]; done) | (simp [bq, ifc_T, ifc_F, inr_m1, h3, h3n, k7_3]; done) | ((try simp only [bq]); repeat (first | rfl | (refine eq_t ?_ ?_; focus (first | omega | assumption | (simp [inr_m1, h3, h3n, k7_3]; done) | (simp [inr_m1, h3, h3n, k7_3]; omega) | (clear hr; (try clear hkn); simp_all; done))) | (refine eq_f ?_ ?_; focus (first | omega | assumption | (simp [inr_m1, h3, h3n, k7_3]; done) | (simp [inr_m1, h3, h3n, k7_3]; omega) | (clear hr; (try clear hkn); simp_all; done))) | (exfalso; clear hr; (try clear hkn); simp_all; done)))), ⟨_, _, rfl⟩, rfl, rfl, rfl, rfl⟩)
    by_cases k7_4 : I 67 p = 4
    · refine v_is k7_4 ?_
      refine v_tabIn (off := 55) (tgt := 86) dX9_welcomeOf_31 (by decide) (by decide) (by decide) (by decide) ?_
      refine v_aload_n dX9_welcomeOf_86 rfl 2 rfl ?_
      refine v_iload_n dX9_welcomeOf_87 rfl 3 rfl ?_
      refine v_iload_n dX9_welcomeOf_88 rfl 4 rfl ?_
      refine v_callVi (As := [.int (nI p), .int (nI c)]) (rest := []) lk_X9_312 (c_X9_isOtherAt (I := (scr I fq1 hq2)) p c pp hpp hpe hp hc) dX9_welcomeOf_89 rfl (ltn rfl) rfl rfl (Nat.le_of_ble_eq_true rfl) (by decide) ?_
      refine v_ifb_eq (tgt := 109) dX9_welcomeOf_92 (by decide) (fun h8 => ?_) (fun h8 => ?_)
      · -- not (∃ o, o < pp ∧ o ≠ p ∧ I 69 o = nI c)
        refine v_iload_n dX9_welcomeOf_109 rfl 1 rfl ?_
        refine v_aload_n dX9_welcomeOf_110 rfl 2 rfl ?_
        refine v_get (v := .ref (g.1 + 68)) fa_X9_23 dX9_welcomeOf_111 rfl (by decide) (ltn rfl) rfl ?_
        refine v_iload_n dX9_welcomeOf_114 rfl 3 rfl ?_
        refine v_iaload (len := 6) (j := p) dX9_welcomeOf_115 rfl (ltn rfl) rfl (by decide) rfl (by omega) ?_
        refine v_is (y := I 68 p) (by rfl) ?_
        refine v_iadd dX9_welcomeOf_116 ?_
        exact v_iret hr dX9_welcomeOf_117 (⟨congrArg (fun z => some (Value.int z)) (by unfold mwel welV; rw [← hsm]; first | rfl | (simp only [bq, ifc_T, ifc_F, inr_m1, and_true, true_and, and_false, false_and, or_true, true_or, or_false, false_or, not_true_eq_false, not_false_eq_true, and_self, or_self, h3, h3n, k7_4, h8]; done) | (simp [bq, ifc_T, ifc_F, inr_m1, h3, h3n, k7_4, h8]; done) | ((try simp only [bq]); repeat (first | rfl | (refine eq_t ?_ ?_; focus (first | omega | assumption | (simp [inr_m1, h3, h3n, k7_4, h8]; done) | (simp [inr_m1, h3, h3n, k7_4, h8]; omega) | (clear hr; (try clear hkn); simp_all; done))) | (refine eq_f ?_ ?_; focus (first | omega | assumption | (simp [inr_m1, h3, h3n, k7_4, h8]; done) | (simp [inr_m1, h3, h3n, k7_4, h8]; omega) | (clear hr; (try clear hkn); simp_all; done))) | (exfalso; clear hr; (try clear hkn); simp_all; done)))), ⟨_, _, rfl⟩, rfl, rfl, rfl, rfl⟩)
      · -- (∃ o, o < pp ∧ o ≠ p ∧ I 69 o = nI c)
        refine v_iload_n dX9_welcomeOf_95 rfl 1 rfl ?_
        refine v_aload_n dX9_welcomeOf_96 rfl 2 rfl ?_
        refine v_get (v := .ref (g.1 + 68)) fa_X9_23 dX9_welcomeOf_97 rfl (by decide) (ltn rfl) rfl ?_
        refine v_iload_n dX9_welcomeOf_100 rfl 3 rfl ?_
        refine v_iaload (len := 6) (j := p) dX9_welcomeOf_101 rfl (ltn rfl) rfl (by decide) rfl (by omega) ?_
        refine v_is (y := I 68 p) (by rfl) ?_
        refine v_iadd dX9_welcomeOf_102 ?_
        refine v_bipush (v := 8) dX9_welcomeOf_103 (by decide) ?_
        refine v_isub dX9_welcomeOf_105 ?_
        refine v_goto (tgt := 117) dX9_welcomeOf_106 (by decide) ?_
        exact v_iret hr dX9_welcomeOf_117 (⟨congrArg (fun z => some (Value.int z)) (by unfold mwel welV; rw [← hsm]; first | rfl | (simp only [bq, ifc_T, ifc_F, inr_m1, and_true, true_and, and_false, false_and, or_true, true_or, or_false, false_or, not_true_eq_false, not_false_eq_true, and_self, or_self, h3, h3n, k7_4, h8]; done) | (simp [bq, ifc_T, ifc_F, inr_m1, h3, h3n, k7_4, h8]; done) | ((try simp only [bq]); repeat (first | rfl | (refine eq_t ?_ ?_; focus (first | omega | assumption | (simp [inr_m1, h3, h3n, k7_4, h8]; done) | (simp [inr_m1, h3, h3n, k7_4, h8]; omega) | (clear hr; (try clear hkn); simp_all; done))) | (refine eq_f ?_ ?_; focus (first | omega | assumption | (simp [inr_m1, h3, h3n, k7_4, h8]; done) | (simp [inr_m1, h3, h3n, k7_4, h8]; omega) | (clear hr; (try clear hkn); simp_all; done))) | (exfalso; clear hr; (try clear hkn); simp_all; done)))), ⟨_, _, rfl⟩, rfl, rfl, rfl, rfl⟩)
    by_cases k7_5 : I 67 p = 5
    · refine v_is k7_5 ?_
      refine v_tabIn (off := 87) (tgt := 118) dX9_welcomeOf_31 (by decide) (by decide) (by decide) (by decide) ?_
      refine v_iload_n dX9_welcomeOf_118 rfl 1 rfl ?_
      refine v_iconst (v := 2) dX9_welcomeOf_119 (by decide) ?_
      refine v_idiv dX9_welcomeOf_120 (by decide) ?_
      refine v_iconst (v := 1) dX9_welcomeOf_121 (by decide) ?_
      refine v_iadd dX9_welcomeOf_122 ?_
      refine v_aload_n dX9_welcomeOf_123 rfl 2 rfl ?_
      refine v_aload_n dX9_welcomeOf_124 rfl 2 rfl ?_
      refine v_get (v := .ref (g.1 + 71)) fa_X9_32 dX9_welcomeOf_125 rfl (by decide) (ltn rfl) rfl ?_
      refine v_iload_n dX9_welcomeOf_128 rfl 3 rfl ?_
      refine v_iaload (len := 6) (j := p) dX9_welcomeOf_129 rfl (ltn rfl) rfl (by decide) rfl (by omega) ?_
      refine v_is (y := I 71 p) (by rfl) ?_
      refine v_callVi (As := [.int (I 71 p)]) (rest := [.int ((sm / 2) + 1)]) lk_X9_315 (c_X9_bits (I 71 p)) dX9_welcomeOf_130 rfl (ltn rfl) rfl rfl (Nat.le_of_ble_eq_true rfl) (by decide) ?_
      refine v_iconst (v := 2) dX9_welcomeOf_133 (by decide) ?_
      refine v_idiv dX9_welcomeOf_134 (by decide) ?_
      refine v_is (nx_div rfl (d := 2) (by omega) (by decide) (by decide)) ?_
      refine v_iadd dX9_welcomeOf_135 ?_
      exact v_iret hr dX9_welcomeOf_136 (⟨congrArg (fun z => some (Value.int z)) (by unfold mwel welV; rw [← hsm]; first | rfl | (simp only [bq, ifc_T, ifc_F, inr_m1, and_true, true_and, and_false, false_and, or_true, true_or, or_false, false_or, not_true_eq_false, not_false_eq_true, and_self, or_self, h3, h3n, k7_5]; done) | (simp [bq, ifc_T, ifc_F, inr_m1, h3, h3n, k7_5]; done) | ((try simp only [bq]); repeat (first | rfl | (refine eq_t ?_ ?_; focus (first | omega | assumption | (simp [inr_m1, h3, h3n, k7_5]; done) | (simp [inr_m1, h3, h3n, k7_5]; omega) | (clear hr; (try clear hkn); simp_all; done))) | (refine eq_f ?_ ?_; focus (first | omega | assumption | (simp [inr_m1, h3, h3n, k7_5]; done) | (simp [inr_m1, h3, h3n, k7_5]; omega) | (clear hr; (try clear hkn); simp_all; done))) | (exfalso; clear hr; (try clear hkn); simp_all; done)))), ⟨_, _, rfl⟩, rfl, rfl, rfl, rfl⟩)
    by_cases k7_6 : I 67 p = 6
    · refine v_is k7_6 ?_
      refine v_tabIn (off := 106) (tgt := 137) dX9_welcomeOf_31 (by decide) (by decide) (by decide) (by decide) ?_
      refine v_iload dX9_welcomeOf_137 0 rfl ?_
      refine v_aload_n dX9_welcomeOf_139 rfl 2 rfl ?_
      refine v_get (v := .ref (g.1 + 73)) fa_X9_38 dX9_welcomeOf_140 rfl (by decide) (ltn rfl) rfl ?_
      refine v_iconst (v := 4) dX9_welcomeOf_143 (by decide) ?_
      refine v_iload_n dX9_welcomeOf_144 rfl 3 rfl ?_
      refine v_imul dX9_welcomeOf_145 ?_
      refine v_is (nx_mul rfl rfl) ?_
      refine v_iload_n dX9_welcomeOf_146 rfl 4 rfl ?_
      refine v_iconst (v := 4) dX9_welcomeOf_147 (by decide) ?_
      refine v_irem dX9_welcomeOf_148 (by decide) ?_
      refine v_is (nx_rem rfl (d := 4) (by omega) (by decide) (by decide)) ?_
      refine v_iadd dX9_welcomeOf_149 ?_
      refine v_is (nx_add rfl rfl) ?_
      refine v_iaload (len := 24) (j := ((4 * p) + (c % 4))) dX9_welcomeOf_150 rfl (ltn rfl) rfl (by decide) rfl (by omega) ?_
      refine v_is (y := I 73 ((4 * p) + (c % 4))) (by rfl) ?_
      refine v_iadd dX9_welcomeOf_151 ?_
      refine v_iconst (v := 4) dX9_welcomeOf_152 (by decide) ?_
      refine v_isub dX9_welcomeOf_153 ?_
      exact v_iret hr dX9_welcomeOf_154 (⟨congrArg (fun z => some (Value.int z)) (by unfold mwel welV; rw [← hsm]; first | rfl | (simp only [bq, ifc_T, ifc_F, inr_m1, and_true, true_and, and_false, false_and, or_true, true_or, or_false, false_or, not_true_eq_false, not_false_eq_true, and_self, or_self, h3, h3n, k7_6]; done) | (simp [bq, ifc_T, ifc_F, inr_m1, h3, h3n, k7_6]; done) | ((try simp only [bq]); repeat (first | rfl | (refine eq_t ?_ ?_; focus (first | omega | assumption | (simp [inr_m1, h3, h3n, k7_6]; done) | (simp [inr_m1, h3, h3n, k7_6]; omega) | (clear hr; (try clear hkn); simp_all; done))) | (refine eq_f ?_ ?_; focus (first | omega | assumption | (simp [inr_m1, h3, h3n, k7_6]; done) | (simp [inr_m1, h3, h3n, k7_6]; omega) | (clear hr; (try clear hkn); simp_all; done))) | (exfalso; clear hr; (try clear hkn); simp_all; done)))), ⟨_, _, rfl⟩, rfl, rfl, rfl, rfl⟩)
    have t9 : (I 67 p).toInt < 1 ∨ 6 < (I 67 p).toInt := by
      rcases sw_out (I 67 p) (1) (6) with h | h | ⟨ha, hb⟩
      · exact Or.inl h
      · exact Or.inr h
      · exfalso
        have hz : ∀ z : Int, 1 ≤ z → z ≤ 6 → z = 1 ∨ z = 2 ∨ z = 3 ∨ z = 4 ∨ z = 5 ∨ z = 6 := by omega
        rcases hz _ ha hb with e | e | e | e | e | e
        · exact absurd (sw_eq (k := 1) e (by decide)) k7_1
        · exact absurd (sw_eq (k := 2) e (by decide)) k7_2
        · exact absurd (sw_eq (k := 3) e (by decide)) k7_3
        · exact absurd (sw_eq (k := 4) e (by decide)) k7_4
        · exact absurd (sw_eq (k := 5) e (by decide)) k7_5
        · exact absurd (sw_eq (k := 6) e (by decide)) k7_6
    refine v_tabOut (tgt := 155) dX9_welcomeOf_31 t9 (by decide) ?_
    refine v_iload_n dX9_welcomeOf_155 rfl 1 rfl ?_
    exact v_iret hr dX9_welcomeOf_156 (⟨congrArg (fun z => some (Value.int z)) (by unfold mwel welV; rw [← hsm]; first | rfl | (simp only [bq, ifc_T, ifc_F, inr_m1, and_true, true_and, and_false, false_and, or_true, true_or, or_false, false_or, not_true_eq_false, not_false_eq_true, and_self, or_self, h3, h3n, k7_1, k7_2, k7_3, k7_4, k7_5, k7_6]; done) | (simp [bq, ifc_T, ifc_F, inr_m1, h3, h3n, k7_1, k7_2, k7_3, k7_4, k7_5, k7_6]; done) | ((try simp only [bq]); repeat (first | rfl | (refine eq_t ?_ ?_; focus (first | omega | assumption | (simp [inr_m1, h3, h3n, k7_1, k7_2, k7_3, k7_4, k7_5, k7_6]; done) | (simp [inr_m1, h3, h3n, k7_1, k7_2, k7_3, k7_4, k7_5, k7_6]; omega) | (clear hr; (try clear hkn); simp_all; done))) | (refine eq_f ?_ ?_; focus (first | omega | assumption | (simp [inr_m1, h3, h3n, k7_1, k7_2, k7_3, k7_4, k7_5, k7_6]; done) | (simp [inr_m1, h3, h3n, k7_1, k7_2, k7_3, k7_4, k7_5, k7_6]; omega) | (clear hr; (try clear hkn); simp_all; done))) | (exfalso; clear hr; (try clear hkn); simp_all; done)))), ⟨_, _, rfl⟩, rfl, rfl, rfl, rfl⟩)
/-- the cells where one is refused, as bits -/
noncomputable def refv (wel : Nat → Int32) : Nat → Int32
  | 0 => 0
  | c + 1 => refv wel c ||| (ifc (0 < wel c) (0 : Int32) ((1 : Int32) <<< (nI c &&& 31)))
set_option maxRecDepth 100000 in
set_option maxHeartbeats 1000000 in
theorem c_X9_refusals {g : Gl} {I : Ty} {L : TL} {na nt ni m : Nat} {nl : Nat → Nat} (p : Nat) (pp : Nat) (hpp : pp ≤ 6) (hpe : I 65 0 = nI pp) (hp : p < 6) (hN : mOK I) : Ct g yX9_refusals cX9_refusals 4 (some .int) 4 0 0 [.ref (g.1 + 65), .int (nI p)] I L (RT na nt ni) (NT nl) (NB + m) (Pq (some (.int (refv (mwel I pp p) 16))) I L (RT na nt ni) (NT nl) (NB + m)) := by
  refine ct_of (by decide +kernel) (Nat.le_of_ble_eq_true rfl) (fun F hnm hr => ?_)
  clear hnm
  show V g F cX9_refusals RX9 4 4 0 [(0, .ref (g.1 + 65)), (1, .int (nI p))] [] I L (RT na nt ni) (NT nl) (NB + m) 0 0
  refine v_iconst (v := 0) dX9_refusals_0 (by decide) ?_
  refine v_istore_n (lv2 := [(2, .int 0), (0, .ref (g.1 + 65)), (1, .int (nI p))]) dX9_refusals_1 rfl (by decide) rfl ?_
  refine v_iconst (v := 0) dX9_refusals_2 (by decide) ?_
  refine v_istore_n (lv2 := [(3, .int 0), (2, .int 0), (0, .ref (g.1 + 65)), (1, .int (nI p))]) dX9_refusals_3 rfl (by decide) rfl ?_
  refine v_lv (lv2 := [(3, .int (nI 0)), (2, .int (refv (mwel I pp p) 0)), (0, .ref (g.1 + 65)), (1, .int (nI p))]) (by rfl) ?_
  refine v_I (I2 := (scr I (I 83) (I 84))) (by exact scr_self I) ?_
  refine dloop (P := fun i => ∀ (fq hq : Nat → Int32), V g F cX9_refusals RX9 4 4 4 [(3, .int (nI i)), (2, .int (refv (mwel I pp p) i)), (0, .ref (g.1 + 65)), (1, .int (nI p))] [] (scr I fq hq) L (RT na nt ni) (NT nl) (NB + m) 0 0) 16 ?_ ?_ 0 (Nat.zero_le _) (I 83) (I 84)
  · intro fq hq
    refine v_iload_n dX9_refusals_4 rfl 0 rfl ?_
    refine v_bipush (v := 16) dX9_refusals_5 (by decide) ?_
    refine v_icmp_geN (a := 16) (b := 16) (tgt := 35) dX9_refusals_7 (by decide) rfl rfl (by omega) (by omega) (fun h1 => ?_) (fun h => by exfalso; omega)
    refine v_iload_n dX9_refusals_35 rfl 1 rfl ?_
    exact v_iret hr dX9_refusals_36 (⟨rfl, ⟨_, _, rfl⟩, rfl, rfl, rfl, rfl⟩)
  · intro i hi ih
    intro fq hq
    refine v_iload_n dX9_refusals_4 rfl 0 rfl ?_
    refine v_bipush (v := 16) dX9_refusals_5 (by decide) ?_
    refine v_icmp_geN (a := i) (b := 16) (tgt := 35) dX9_refusals_7 (by decide) rfl rfl (by omega) (by omega) (fun h => by exfalso; omega) (fun h2 => ?_)
    refine v_iload_n dX9_refusals_10 rfl 1 rfl ?_
    refine v_aload_n dX9_refusals_11 rfl 2 rfl ?_
    refine v_iload_n dX9_refusals_12 rfl 3 rfl ?_
    refine v_iload_n dX9_refusals_13 rfl 0 rfl ?_
    refine v_callVqi (As := [.int (nI p), .int (nI i)]) (rest := [.int (refv (mwel I pp p) i)]) lk_X9_318 (c_X9_welcomeOf (I := (scr I fq hq)) p i pp hpp hpe (by omega) (by omega) hN) dX9_refusals_14 rfl (ltn rfl) rfl rfl (Nat.le_of_ble_eq_true rfl) (by decide) (fun fq3 hq4 => ?_)
    refine v_is (y := mwel I pp p i) rfl ?_
    refine v_I (scr_scr _ _ _ _ _) ?_
    refine v_if_gt (tgt := 26) dX9_refusals_17 (by decide) (fun h5 => ?_) (fun h5 => ?_)
    · -- (mwel I pp p i) gt 0
      refine v_iconst (v := 0) dX9_refusals_26 (by decide) ?_
      refine v_ior dX9_refusals_27 ?_
      refine v_istore_n (lv2 := [(2, .int ((refv (mwel I pp p) i) ||| 0)), (3, .int (nI i)), (0, .ref (g.1 + 65)), (1, .int (nI p))]) dX9_refusals_28 rfl (by decide) rfl ?_
      refine v_inc (v := nI (i + 1)) (lv2 := [(3, .int (nI (i + 1))), (2, .int ((refv (mwel I pp p) i) ||| 0)), (0, .ref (g.1 + 65)), (1, .int (nI p))]) dX9_refusals_29 1 rfl (nx_inc rfl) (by decide) rfl ?_
      refine v_goto (tgt := 4) dX9_refusals_32 (by decide) ?_
      refine v_lv (lv2 := [(3, .int (nI (i + 1))), (2, .int (refv (mwel I pp p) (i + 1))), (0, .ref (g.1 + 65)), (1, .int (nI p))]) (by simp [refv, ifc_T, ifc_F, h5]) ?_
      exact ih _ _
    · -- (mwel I pp p i) le 0
      refine v_iconst (v := 1) dX9_refusals_20 (by decide) ?_
      refine v_iload_n dX9_refusals_21 rfl 0 rfl ?_
      refine v_ishl dX9_refusals_22 ?_
      refine v_goto (tgt := 27) dX9_refusals_23 (by decide) ?_
      refine v_ior dX9_refusals_27 ?_
      refine v_istore_n (lv2 := [(2, .int ((refv (mwel I pp p) i) ||| (1 <<< (nI i &&& 31)))), (3, .int (nI i)), (0, .ref (g.1 + 65)), (1, .int (nI p))]) dX9_refusals_28 rfl (by decide) rfl ?_
      refine v_inc (v := nI (i + 1)) (lv2 := [(3, .int (nI (i + 1))), (2, .int ((refv (mwel I pp p) i) ||| (1 <<< (nI i &&& 31)))), (0, .ref (g.1 + 65)), (1, .int (nI p))]) dX9_refusals_29 1 rfl (nx_inc rfl) (by decide) rfl ?_
      refine v_goto (tgt := 4) dX9_refusals_32 (by decide) ?_
      refine v_lv (lv2 := [(3, .int (nI (i + 1))), (2, .int (refv (mwel I pp p) (i + 1))), (0, .ref (g.1 + 65)), (1, .int (nI p))]) (by simp [refv, ifc_T, ifc_F, h5]) ?_
      exact ih _ _
set_option maxRecDepth 100000 in
set_option maxHeartbeats 400000 in
theorem c_X9_welcome {g : Gl} {I : Ty} {L : TL} {na nt ni m : Nat} {nl : Nat → Nat} (pz : Int32) (cz : Int32) (pp : Nat) (hpp : pp ≤ 6) (hpe : I 65 0 = nI pp) (hN : mOK I) : Ct g yX9_welcome cX9_welcome 3 (some .int) 4 0 0 [.ref (g.1 + 65), .int pz, .int cz] I L (RT na nt ni) (NT nl) (NB + m) (Pq (some (.int (ifc (inr pz pp ∧ inr cz 16) (mwel I pp (tn pz) (tn cz)) (-10001)))) I L (RT na nt ni) (NT nl) (NB + m)) := by
  refine ct_of (by decide +kernel) (Nat.le_of_ble_eq_true rfl) (fun F hnm hr => ?_)
  clear hnm
  show V g F cX9_welcome RX9 3 4 0 [(0, .ref (g.1 + 65)), (1, .int pz), (2, .int cz)] [] I L (RT na nt ni) (NT nl) (NB + m) 0 0
  refine v_aload_n dX9_welcome_0 rfl 0 rfl ?_
  refine v_iload_n dX9_welcome_1 rfl 1 rfl ?_
  refine v_callVi (As := [.int pz]) (rest := []) lk_X9_245 (c_X9_isOne pz pp hpp hpe) dX9_welcome_2 rfl (ltn rfl) rfl rfl (Nat.le_of_ble_eq_true rfl) (by decide) ?_
  refine v_ifb_eq (tgt := 25) dX9_welcome_5 (by decide) (fun h1 => ?_) (fun h1 => ?_)
  · -- not inr pz pp
    refine v_sipush (v := (-10001)) dX9_welcome_25 (by decide) ?_
    exact v_iret hr dX9_welcome_28 (⟨congrArg (fun z => some (Value.int z)) (by first | rfl | (simp only [bq, ifc_T, ifc_F, inr_m1, and_true, true_and, and_false, false_and, or_true, true_or, or_false, false_or, not_true_eq_false, not_false_eq_true, and_self, or_self, h1]; done) | (simp [bq, ifc_T, ifc_F, inr_m1, h1]; done) | ((try simp only [bq]); repeat (first | rfl | (refine eq_t ?_ ?_; focus (first | omega | assumption | (simp [inr_m1, h1]; done) | (simp [inr_m1, h1]; omega) | (clear hr; (try clear hkn); simp_all; done))) | (refine eq_f ?_ ?_; focus (first | omega | assumption | (simp [inr_m1, h1]; done) | (simp [inr_m1, h1]; omega) | (clear hr; (try clear hkn); simp_all; done))) | (exfalso; clear hr; (try clear hkn); simp_all; done)))), ⟨_, _, scr_self I⟩, rfl, rfl, rfl, rfl⟩)
  · -- inr pz pp
    obtain ⟨P2, rfl, l3, t4, u5⟩ := inr_ex h1 (by omega)
    refine v_aload_n dX9_welcome_8 rfl 0 rfl ?_
    refine v_iload_n dX9_welcome_9 rfl 2 rfl ?_
    refine v_callVi (As := [.int cz]) (rest := []) lk_X9_241 (c_X9_isCell cz) dX9_welcome_10 rfl (ltn rfl) rfl rfl (Nat.le_of_ble_eq_true rfl) (by decide) ?_
    refine v_ifb_eq (tgt := 25) dX9_welcome_13 (by decide) (fun h6 => ?_) (fun h6 => ?_)
    · -- not inr cz 16
      refine v_sipush (v := (-10001)) dX9_welcome_25 (by decide) ?_
      exact v_iret hr dX9_welcome_28 (⟨congrArg (fun z => some (Value.int z)) (by first | rfl | (simp only [bq, ifc_T, ifc_F, inr_m1, and_true, true_and, and_false, false_and, or_true, true_or, or_false, false_or, not_true_eq_false, not_false_eq_true, and_self, or_self, h1, t4, u5, l3, h6]; done) | (simp [bq, ifc_T, ifc_F, inr_m1, h1, t4, u5, l3, h6]; done) | ((try simp only [bq]); repeat (first | rfl | (refine eq_t ?_ ?_; focus (first | omega | assumption | (simp [inr_m1, h1, t4, u5, l3, h6]; done) | (simp [inr_m1, h1, t4, u5, l3, h6]; omega) | (simp only [u5]; omega) | (clear hr; (try clear hkn); simp_all; done))) | (refine eq_f ?_ ?_; focus (first | omega | assumption | (simp [inr_m1, h1, t4, u5, l3, h6]; done) | (simp [inr_m1, h1, t4, u5, l3, h6]; omega) | (simp only [u5]; omega) | (clear hr; (try clear hkn); simp_all; done))) | (simp only [t4]; done) | (exfalso; clear hr; (try clear hkn); simp_all; done)))), ⟨_, _, scr_self I⟩, rfl, rfl, rfl, rfl⟩)
    · -- inr cz 16
      obtain ⟨P7, rfl, l8, t9, u10⟩ := inr_ex h6 (by omega)
      refine v_aload_n dX9_welcome_16 rfl 0 rfl ?_
      refine v_iload_n dX9_welcome_17 rfl 1 rfl ?_
      refine v_iload_n dX9_welcome_18 rfl 2 rfl ?_
      refine v_callVqi (As := [.int (nI P2), .int (nI P7)]) (rest := []) lk_X9_318 (c_X9_welcomeOf P2 P7 pp hpp hpe (by omega) (by omega) hN) dX9_welcome_19 rfl (ltn rfl) rfl rfl (Nat.le_of_ble_eq_true rfl) (by decide) (fun fq11 hq12 => ?_)
      refine v_goto (tgt := 28) dX9_welcome_22 (by decide) ?_
      exact v_iret hr dX9_welcome_28 (⟨congrArg (fun z => some (Value.int z)) (by first | rfl | (simp only [bq, ifc_T, ifc_F, inr_m1, and_true, true_and, and_false, false_and, or_true, true_or, or_false, false_or, not_true_eq_false, not_false_eq_true, and_self, or_self, h1, t4, u5, l3, h6, t9, u10, l8]; done) | (simp [bq, ifc_T, ifc_F, inr_m1, h1, t4, u5, l3, h6, t9, u10, l8]; done) | ((try simp only [bq]); repeat (first | rfl | (refine eq_t ?_ ?_; focus (first | omega | assumption | (simp [inr_m1, h1, t4, u5, l3, h6, t9, u10, l8]; done) | (simp [inr_m1, h1, t4, u5, l3, h6, t9, u10, l8]; omega) | (simp only [u5, u10]; omega) | (clear hr; (try clear hkn); simp_all; done))) | (refine eq_f ?_ ?_; focus (first | omega | assumption | (simp [inr_m1, h1, t4, u5, l3, h6, t9, u10, l8]; done) | (simp [inr_m1, h1, t4, u5, l3, h6, t9, u10, l8]; omega) | (simp only [u5, u10]; omega) | (clear hr; (try clear hkn); simp_all; done))) | (simp only [t4, t9]; done) | (exfalso; clear hr; (try clear hkn); simp_all; done)))), ⟨_, _, rfl⟩, rfl, rfl, rfl, rfl⟩)
