abbrev Pfa (k0 : Nat) (v0 : Option Value) (I0 : Ty) (L0 : TL) (R0 : TR) (N0 : TN) (n0 : Nat) : Post := fun v I L R N n => v = v0 ∧ (∃ f, I = va_up I0 k0 f) ∧ L = L0 ∧ R = R0 ∧ N = N0 ∧ n = n0
section
variable {g : Gl} {F : Fx} {cc : ByteArray} {own : String} {nL d pc : Nat} {lv : List (Nat × Value)} {st : List Value} {I : Ty} {L : TL} {R : TR} {N : TN} {n kr sr : Nat}
theorem v_callVfi {index na mL dc k ci k0 : Nat} {y : MethodName} {bytes : ByteArray} {ret : Option FieldType} {As rest : List Value} {r : Int32} {I0 : Ty} {L0 : TL} {R0 : TR} {N0 : TN} {n0 : Nat} (hl : LkV own index y bytes mL ret na ci) (hM : Ct g y bytes mL ret dc 0 0 (.ref (g.1 + k) :: As) I L R N n (Pfa k0 (some (.int r)) I0 L0 R0 N0 n0)) (hd : decode cc pc = .ok (.invokevirtual index, 3)) (hk : kd k = ci) (hn : k < n) (hna : As.length = na) (hst : st = As.reverse ++ .ref (g.1 + k) :: rest) (hrest : rest.length ≤ 4) (hdc : dc + 1 ≤ d)
    (kk : ∀ f, V g F cc own nL d (pc + 3) lv (.int r :: rest) (va_up I0 k0 f) L0 R0 N0 n0 kr sr) : V g F cc own nL d pc lv st I L R N n kr sr :=
  v_callV hl hM hd hk hn hna hst hrest hdc (Nat.zero_le _) (Nat.zero_le _) (fun v I' L' R' N' n' h => by obtain ⟨rfl, ⟨f, rfl⟩, rfl, rfl, rfl, rfl⟩ := h; exact kk f)
theorem v_callVfv {index na mL dc k ci k0 : Nat} {y : MethodName} {bytes : ByteArray} {ret : Option FieldType} {As rest : List Value}  {I0 : Ty} {L0 : TL} {R0 : TR} {N0 : TN} {n0 : Nat} (hl : LkV own index y bytes mL ret na ci) (hM : Ct g y bytes mL ret dc 0 0 (.ref (g.1 + k) :: As) I L R N n (Pfa k0 none I0 L0 R0 N0 n0)) (hd : decode cc pc = .ok (.invokevirtual index, 3)) (hk : kd k = ci) (hn : k < n) (hna : As.length = na) (hst : st = As.reverse ++ .ref (g.1 + k) :: rest) (hrest : rest.length ≤ 4) (hdc : dc + 1 ≤ d)
    (kk : ∀ f, V g F cc own nL d (pc + 3) lv rest (va_up I0 k0 f) L0 R0 N0 n0 kr sr) : V g F cc own nL d pc lv st I L R N n kr sr :=
  v_callV hl hM hd hk hn hna hst hrest hdc (Nat.zero_le _) (Nat.zero_le _) (fun v I' L' R' N' n' h => by obtain ⟨rfl, ⟨f, rfl⟩, rfl, rfl, rfl, rfl⟩ := h; exact kk f)
end
theorem fc_neg {st : Int32} {b gl : Nat} (hbg : b ≠ gl) (h : ¬ near (dst st gl) b < 99) : fcV st b gl = -1 ∧ lw st b gl < 0 := by
  unfold fcV lw
  rw [ifc_f h, ifc_f hbg, ifc_f h]; exact ⟨rfl, by decide⟩
theorem fc_pos {st : Int32} {b gl : Nat} (hbg : b ≠ gl) (h : near (dst st gl) b < 99) : fcV st b gl = nI (fstC st b gl) ∧ ¬ lw st b gl < 0 := by
  unfold fcV lw
  rw [ifc_t h, ifc_f hbg, ifc_t h]; exact ⟨rfl, nI_pos (by omega)⟩
noncomputable def lessC (most x : Int32) : Int32 := ifc (x < most) (x + 1) x
theorem ch_or {x : Int32} {c : Nat} (h : inr x 65536) (hc : c < 16) : inr (x ||| (1 : Int32) <<< (nI c &&& 31)) 65536 := s16_inr.mp (s16_or (s16_inr.mpr h) (s16_one hc))
theorem ch_and {x y : Int32} (h : inr x 65536) : inr (x &&& y) 65536 := s16_inr.mp (s16_and (s16_inr.mpr h))
set_option maxRecDepth 100000 in
set_option maxHeartbeats 1000000 in
theorem c_refusals {g : Gl} {I : Ty} {L : TL} {na nt ni m : Nat} {nl : Nat → Nat} (pz : Nat) (pp : Nat) (hpp : pp ≤ 6) (hpe : I 23 1 = nI pp) (hpz : pz < 6) (hxm : 2 * na ≤ m) (hsl : sln nl na ≤ 100) (hok : okSt (I (scell na)) (sln nl na)) (hch : ChOK (I 29)) : Ct g yX2_refusals cX2_refusals 4 (some .int) 2 0 0 [.ref (g.1 + 23), .int (nI pz)] I L (RT na nt ni) (NT nl) (NB + m) (Pfa 32 (some (.int (refv (fun q => (Wl (I 24) (I 25) (I 26) (I 31) pp (nsW I nl na) (I 23 9) (I 27) (I 29) pz q)) 16))) I L (RT na nt ni) (NT nl) (NB + m)) := by
  refine ct_of (by decide +kernel) (Nat.le_of_ble_eq_true rfl) (fun F hnm hr => ?_)
  clear hnm
  show V g F cX2_refusals RX2 4 2 0 [(0, .ref (g.1 + 23)), (1, .int (nI pz))] [] I L (RT na nt ni) (NT nl) (NB + m) 0 0
  refine v_iconst (v := 0) dX2_refusals_0 (by decide) ?_
  refine v_istore_n (lv2 := [(2, .int 0), (0, .ref (g.1 + 23)), (1, .int (nI pz))]) dX2_refusals_1 rfl (by decide) rfl ?_
  refine v_iconst (v := 0) dX2_refusals_2 (by decide) ?_
  refine v_istore_n (lv2 := [(3, .int 0), (2, .int 0), (0, .ref (g.1 + 23)), (1, .int (nI pz))]) dX2_refusals_3 rfl (by decide) rfl ?_
  refine v_lv (lv2 := [(3, .int (nI 0)), (2, .int (refv (fun q => (Wl (I 24) (I 25) (I 26) (I 31) pp (nsW I nl na) (I 23 9) (I 27) (I 29) pz q)) 0)), (0, .ref (g.1 + 23)), (1, .int (nI pz))]) (by rfl) ?_
  refine v_I (I2 := (va_up I 32 (I 32))) (by exact (up_self I 32).symm) ?_
  refine dloop (P := fun i => ∀ (fq : Nat → Int32), V g F cX2_refusals RX2 4 2 4 [(3, .int (nI i)), (2, .int (refv (fun q => (Wl (I 24) (I 25) (I 26) (I 31) pp (nsW I nl na) (I 23 9) (I 27) (I 29) pz q)) i)), (0, .ref (g.1 + 23)), (1, .int (nI pz))] [] (va_up I 32 fq) L (RT na nt ni) (NT nl) (NB + m) 0 0) 16 ?_ ?_ 0 (Nat.zero_le _) (I 32)
  · intro fq
    refine v_iload_n dX2_refusals_4 rfl 0 rfl ?_
    refine v_bipush (v := 16) dX2_refusals_5 (by decide) ?_
    refine v_icmp_geN (a := 16) (b := 16) (tgt := 31) dX2_refusals_7 (by decide) rfl rfl (by omega) (by omega) (fun h1 => ?_) (fun h => by exfalso; omega)
    refine v_iload_n dX2_refusals_31 rfl 1 rfl ?_
    exact v_iret hr dX2_refusals_32 (⟨rfl, ⟨_, rfl⟩, rfl, rfl, rfl, rfl⟩)
  · intro i hi ih
    intro fq
    refine v_iload_n dX2_refusals_4 rfl 0 rfl ?_
    refine v_bipush (v := 16) dX2_refusals_5 (by decide) ?_
    refine v_icmp_geN (a := i) (b := 16) (tgt := 31) dX2_refusals_7 (by decide) rfl rfl (by omega) (by omega) (fun h => by exfalso; omega) (fun h2 => ?_)
    refine v_aload_n dX2_refusals_10 rfl 2 rfl ?_
    refine v_iload_n dX2_refusals_11 rfl 3 rfl ?_
    refine v_iload_n dX2_refusals_12 rfl 0 rfl ?_
    refine v_callVfi (As := [.int (nI pz), .int (nI i)]) (rest := []) lk_X2_79 (c_wel_23 (I := (va_up I 32 fq)) pz i pp hpp hpe (by omega) (by omega) hxm hsl (by rw [up_off _ _ (scell_ne na (by decide) (by decide))]; exact hok) hch) dX2_refusals_13 rfl (ltn rfl) rfl rfl (Nat.le_of_ble_eq_true rfl) (by decide) (fun fq3 => ?_)
    refine v_is (y := (Wl (I 24) (I 25) (I 26) (I 31) pp (nsW I nl na) (I 23 9) (I 27) (I 29) pz i)) (by rw [nsW_up (by decide) (by decide)]; rfl) ?_
    refine v_I (up_up2 _ _ _ _) ?_
    refine v_if_gt (tgt := 25) dX2_refusals_16 (by decide) (fun h5 => ?_) (fun h5 => ?_)
    · refine v_inc (v := nI (i + 1)) (lv2 := [(3, .int (nI (i + 1))), (2, .int (refv (fun q => (Wl (I 24) (I 25) (I 26) (I 31) pp (nsW I nl na) (I 23 9) (I 27) (I 29) pz q)) i)), (0, .ref (g.1 + 23)), (1, .int (nI pz))]) dX2_refusals_25 0 rfl (nx_inc rfl) (by decide) rfl ?_
      refine v_goto (tgt := 4) dX2_refusals_28 (by decide) ?_
      refine v_lv (lv2 := [(3, .int (nI (i + 1))), (2, .int (refv (fun q => (Wl (I 24) (I 25) (I 26) (I 31) pp (nsW I nl na) (I 23 9) (I 27) (I 29) pz q)) (i + 1))), (0, .ref (g.1 + 23)), (1, .int (nI pz))]) (by simp only [refv, ifc_t h5, Int32.or_zero]) ?_
      exact ih _
    · refine v_iload_n dX2_refusals_19 rfl 1 rfl ?_
      refine v_iconst (v := 1) dX2_refusals_20 (by decide) ?_
      refine v_iload_n dX2_refusals_21 rfl 0 rfl ?_
      refine v_ishl dX2_refusals_22 ?_
      refine v_ior dX2_refusals_23 ?_
      refine v_istore_n (lv2 := [(2, .int ((refv (fun q => (Wl (I 24) (I 25) (I 26) (I 31) pp (nsW I nl na) (I 23 9) (I 27) (I 29) pz q)) i) ||| (1 <<< (nI i &&& 31)))), (3, .int (nI i)), (0, .ref (g.1 + 23)), (1, .int (nI pz))]) dX2_refusals_24 rfl (by decide) rfl ?_
      refine v_inc (v := nI (i + 1)) (lv2 := [(3, .int (nI (i + 1))), (2, .int ((refv (fun q => (Wl (I 24) (I 25) (I 26) (I 31) pp (nsW I nl na) (I 23 9) (I 27) (I 29) pz q)) i) ||| (1 <<< (nI i &&& 31)))), (0, .ref (g.1 + 23)), (1, .int (nI pz))]) dX2_refusals_25 1 rfl (nx_inc rfl) (by decide) rfl ?_
      refine v_goto (tgt := 4) dX2_refusals_28 (by decide) ?_
      refine v_lv (lv2 := [(3, .int (nI (i + 1))), (2, .int (refv (fun q => (Wl (I 24) (I 25) (I 26) (I 31) pp (nsW I nl na) (I 23 9) (I 27) (I 29) pz q)) (i + 1))), (0, .ref (g.1 + 23)), (1, .int (nI pz))]) (by simp only [refv, ifc_f h5, Int32.or_zero]) ?_
      exact ih _
def mpC23 (I : Ty) (s : T3) : Ty := va_up (va_up (va_up I 27 s.1) 29 s.2.1) 30 s.2.2
def mgC23 (I : Ty) : T3 := (I 27, I 29, I 30)
def mpH23 (I : Ty) (z : ZH) : Ty := va_up (mpC23 I z.1) 23 (va_up (I 23) 9 z.2)
def mgH23 (I : Ty) : ZH := (mgC23 I, I 23 9)
set_option maxRecDepth 100000 in
set_option maxHeartbeats 2000000 in
theorem c_goOn_23 {g : Gl} {I : Ty} {L : TL} {na nt ni m : Nat} {nl : Nat → Nat} (pz : Nat) (mo : Int32) (pp : Nat) (hpp : pp ≤ 6) (hpe : I 23 1 = nI pp) (hpz : pz < 6) (hxm : 2 * na ≤ m) (hsl : sln nl na ≤ 100) (hok : okSt (I (scell na)) (sln nl na)) (hch : ChOK (I 29)) (hsp : ∃ s, s < 16 ∧ I 27 pz = nI s) (hgp : ∃ s, s < 16 ∧ I 28 pz = nI s) (hnq : ¬ I 28 pz = I 27 pz) : Ct g yX2_goOn cX2_goOn 4 none 3 0 0 [.ref (g.1 + 23), .int (nI pz), .int mo] I L (RT na nt ni) (NT nl) (NB + m) (Pfa 32 none (mpC23 I (go1 (I 24) (I 25) (I 26) (I 28) (I 31) pp (nsW I nl na) (I 23 9) (lessC mo) (mgC23 I) pz)) L (RT na nt ni) (NT nl) (NB + m)) := by
  refine ct_of (by decide +kernel) (Nat.le_of_ble_eq_true rfl) (fun F hnm hr => ?_)
  clear hnm
  show V g F cX2_goOn RX2 4 3 0 [(0, .ref (g.1 + 23)), (1, .int (nI pz)), (2, .int mo)] [] I L (RT na nt ni) (NT nl) (NB + m) 0 0
  obtain ⟨sz, hsz, hes⟩ := hsp
  obtain ⟨gz, hgz, heg⟩ := hgp
  have hne : sz ≠ gz := fun e => hnq (by rw [hes, heg, e])
  refine v_aload_n dX2_goOn_0 rfl 0 rfl ?_
  refine v_get (v := .ref (g.1 + 27)) fa_X2_21 dX2_goOn_1 rfl (by decide) (ltn rfl) rfl ?_
  refine v_iload_n dX2_goOn_4 rfl 1 rfl ?_
  refine v_iaload (len := 6) (j := pz) dX2_goOn_5 rfl (ltn rfl) rfl (by decide) rfl (by omega) ?_
  refine v_is hes ?_
  refine v_aload_n dX2_goOn_6 rfl 0 rfl ?_
  refine v_get (v := .ref (g.1 + 28)) fa_X2_24 dX2_goOn_7 rfl (by decide) (ltn rfl) rfl ?_
  refine v_iload_n dX2_goOn_10 rfl 1 rfl ?_
  refine v_iaload (len := 6) (j := pz) dX2_goOn_11 rfl (ltn rfl) rfl (by decide) rfl (by omega) ?_
  refine v_is heg ?_
  refine v_aload_n dX2_goOn_12 rfl 0 rfl ?_
  refine v_get (v := .ref (g.1 + 29)) fa_X2_27 dX2_goOn_13 rfl (by decide) (ltn rfl) rfl ?_
  refine v_iload_n dX2_goOn_16 rfl 1 rfl ?_
  refine v_iaload (len := 6) (j := pz) dX2_goOn_17 rfl (ltn rfl) rfl (by decide) rfl (by omega) ?_
  refine v_callSi (As := [.int (nI sz), .int (nI gz), .int (I 29 pz)]) (rest := []) lk_X2_93 (c_X7_firstCell sz gz (I 29 pz) (by omega) (by omega)) dX2_goOn_18 rfl rfl (Nat.le_of_ble_eq_true rfl) (by decide) ?_
  by_cases hlt : near (dst (I 29 pz) gz) sz < 99
  · refine v_is (fc_pos hne hlt).1 ?_
    have hnl := (fc_pos hne hlt).2
    have hf16 := (fstC_lt hne hnl).1
    refine v_istore_n (lv2 := [(3, .int (nI (fstC (I 29 pz) sz gz))), (0, .ref (g.1 + 23)), (1, .int (nI pz)), (2, .int mo)]) dX2_goOn_21 rfl (by decide) rfl ?_
    refine v_iload_n dX2_goOn_22 rfl 0 rfl ?_
    refine v_if_geN (a := (fstC (I 29 pz) sz gz)) (tgt := 27) dX2_goOn_23 (by decide) rfl (by omega) (fun h1 => ?_) (fun h => by exfalso; omega)
    refine v_aload_n dX2_goOn_27 rfl 1 rfl ?_
    refine v_iload_n dX2_goOn_28 rfl 2 rfl ?_
    refine v_iload_n dX2_goOn_29 rfl 0 rfl ?_
    refine v_callVfi (As := [.int (nI pz), .int (nI (fstC (I 29 pz) sz gz))]) (rest := []) lk_X2_79 (c_wel_23 (I := I) pz (fstC (I 29 pz) sz gz) pp hpp hpe (by omega) (by omega) hxm hsl hok hch) dX2_goOn_30 rfl (ltn rfl) rfl rfl (Nat.le_of_ble_eq_true rfl) (by decide) (fun fq2 => ?_)
    refine v_if_le (tgt := 44) dX2_goOn_33 (by decide) (fun h4 => ?_) (fun h4 => ?_)
    · refine v_aload_n dX2_goOn_44 rfl 1 rfl ?_
      refine v_get (v := .ref (g.1 + 29)) fa_X2_27 dX2_goOn_45 rfl (by decide) (ltn rfl) rfl ?_
      refine v_iload_n dX2_goOn_48 rfl 2 rfl ?_
      refine v_dup2 dX2_goOn_49 rfl rfl ?_
      refine v_iaload (len := 6) (j := pz) dX2_goOn_50 rfl (ltn rfl) rfl (by decide) rfl (by omega) ?_
      refine v_is (y := I 29 pz) (by rfl) ?_
      refine v_iconst (v := 1) dX2_goOn_51 (by decide) ?_
      refine v_iload_n dX2_goOn_52 rfl 0 rfl ?_
      refine v_ishl dX2_goOn_53 ?_
      refine v_ior dX2_goOn_54 ?_
      refine v_iastore (len := 6) (j := pz) dX2_goOn_55 rfl (ltn rfl) rfl (by decide) rfl (by omega) ?_
      refine v_aload_n dX2_goOn_56 rfl 1 rfl ?_
      refine v_get (v := .ref (g.1 + 30)) fa_X2_30 dX2_goOn_57 rfl (by decide) (ltn rfl) rfl ?_
      refine v_iload_n dX2_goOn_60 rfl 2 rfl ?_
      refine v_iaload (len := 6) (j := pz) dX2_goOn_61 rfl (ltn rfl) rfl (by decide) rfl (by omega) ?_
      refine v_is (y := I 30 pz) (by first | (rfl) | (simp only [va_up]; rfl) | (simp [va_up]; rfl)) ?_
      refine v_iload_n dX2_goOn_62 rfl 3 rfl ?_
      refine v_icmp_ge (tgt := 76) dX2_goOn_63 (by decide) (fun h6 => ?_) (fun h6 => ?_)
      · have hgo : (go1 (I 24) (I 25) (I 26) (I 28) (I 31) pp (nsW I nl na) (I 23 9) (lessC mo) (mgC23 I) pz) = _ := go1_e (s := mgC23 I) hes heg hsz hgz hne hnl (Int32.not_lt.mpr h4)
        have hls : lessC mo (I 30 pz) = (I 30 pz) := ifc_f (Int32.not_lt.mpr h6)
        have hI : (wr (va_up I 32 fq2) 29 pz (I 29 pz ||| (1 <<< (nI (fstC (I 29 pz) sz gz) &&& 31)))) = va_up (mpC23 I (I 27, va_up (I 29) pz (I 29 pz ||| 1 <<< (nI (fstC (I 29 pz) sz gz) &&& 31)), (I 30))) 32 fq2 := by
          unfold mpC23
          funext a
          by_cases h27 : a = 27
          · subst h27; first | rfl | (funext jz; simp [va_up]; done)
          by_cases h29 : a = 29
          · subst h29; first | rfl | (funext jz; simp [va_up]; done)
          by_cases h30 : a = 30
          · subst h30; first | rfl | (funext jz; simp [va_up]; done)
          by_cases h32 : a = 32
          · subst h32; first | rfl | (funext jz; simp [va_up]; done)
          simp [h27, h29, h30, h32, va_up]
        exact v_vret hr dX2_goOn_76 (⟨rfl, ⟨_, (by rw [hgo]; show _ = va_up (mpC23 I (_, _, va_up (I 30) pz (lessC mo (I 30 pz)))) 32 _; rw [hls, up_self (I 30) pz]; exact hI)⟩, rfl, rfl, rfl, rfl⟩)
      · refine v_aload_n dX2_goOn_66 rfl 1 rfl ?_
        refine v_get (v := .ref (g.1 + 30)) fa_X2_30 dX2_goOn_67 rfl (by decide) (ltn rfl) rfl ?_
        refine v_iload_n dX2_goOn_70 rfl 2 rfl ?_
        refine v_dup2 dX2_goOn_71 rfl rfl ?_
        refine v_iaload (len := 6) (j := pz) dX2_goOn_72 rfl (ltn rfl) rfl (by decide) rfl (by omega) ?_
        refine v_is (y := I 30 pz) (by first | (rfl) | (simp only [va_up]; rfl) | (simp [va_up]; rfl)) ?_
        refine v_iconst (v := 1) dX2_goOn_73 (by decide) ?_
        refine v_iadd dX2_goOn_74 ?_
        refine v_iastore (len := 6) (j := pz) dX2_goOn_75 rfl (ltn rfl) rfl (by decide) rfl (by omega) ?_
        have hgo : (go1 (I 24) (I 25) (I 26) (I 28) (I 31) pp (nsW I nl na) (I 23 9) (lessC mo) (mgC23 I) pz) = _ := go1_e (s := mgC23 I) hes heg hsz hgz hne hnl (Int32.not_lt.mpr h4)
        have hls : lessC mo (I 30 pz) = (I 30 pz + 1) := ifc_t (Int32.not_le.mp h6)
        have hI : (wr (wr (va_up I 32 fq2) 29 pz (I 29 pz ||| (1 <<< (nI (fstC (I 29 pz) sz gz) &&& 31)))) 30 pz (I 30 pz + 1)) = va_up (mpC23 I (I 27, va_up (I 29) pz (I 29 pz ||| 1 <<< (nI (fstC (I 29 pz) sz gz) &&& 31)), va_up (I 30) pz (I 30 pz + 1))) 32 fq2 := by
          unfold mpC23
          funext a
          by_cases h27 : a = 27
          · subst h27; first | rfl | (funext jz; simp [va_up]; done)
          by_cases h29 : a = 29
          · subst h29; first | rfl | (funext jz; simp [va_up]; done)
          by_cases h30 : a = 30
          · subst h30; first | rfl | (funext jz; simp [va_up]; done)
          by_cases h32 : a = 32
          · subst h32; first | rfl | (funext jz; simp [va_up]; done)
          simp [h27, h29, h30, h32, va_up]
        exact v_vret hr dX2_goOn_76 (⟨rfl, ⟨_, (by rw [hgo]; show _ = va_up (mpC23 I (_, _, va_up (I 30) pz (lessC mo (I 30 pz)))) 32 _; rw [hls]; exact hI)⟩, rfl, rfl, rfl, rfl⟩)
    · refine v_aload_n dX2_goOn_36 rfl 1 rfl ?_
      refine v_get (v := .ref (g.1 + 27)) fa_X2_21 dX2_goOn_37 rfl (by decide) (ltn rfl) rfl ?_
      refine v_iload_n dX2_goOn_40 rfl 2 rfl ?_
      refine v_iload_n dX2_goOn_41 rfl 0 rfl ?_
      refine v_iastore (len := 6) (j := pz) dX2_goOn_42 rfl (ltn rfl) rfl (by decide) rfl (by omega) ?_
      have hgo : (go1 (I 24) (I 25) (I 26) (I 28) (I 31) pp (nsW I nl na) (I 23 9) (lessC mo) (mgC23 I) pz) = _ := go1_d (s := mgC23 I) hes heg hsz hgz hne hnl (Int32.not_le.mp h4)
      have hI : (wr (va_up I 32 fq2) 27 pz (nI (fstC (I 29 pz) sz gz))) = va_up (mpC23 I (va_up (I 27) pz (nI (fstC (I 29 pz) sz gz)), I 29, I 30)) 32 fq2 := by
        unfold mpC23
        funext a
        by_cases h27 : a = 27
        · subst h27; first | rfl | (funext jz; simp [va_up]; done)
        by_cases h29 : a = 29
        · subst h29; first | rfl | (funext jz; simp [va_up]; done)
        by_cases h30 : a = 30
        · subst h30; first | rfl | (funext jz; simp [va_up]; done)
        by_cases h32 : a = 32
        · subst h32; first | rfl | (funext jz; simp [va_up]; done)
        simp [h27, h29, h30, h32, va_up]
      exact v_vret hr dX2_goOn_43 (⟨rfl, ⟨_, (by rw [hgo]; exact hI)⟩, rfl, rfl, rfl, rfl⟩)
  · refine v_is (fc_neg hne hlt).1 ?_
    refine v_istore_n (lv2 := [(3, .int (-1)), (0, .ref (g.1 + 23)), (1, .int (nI pz)), (2, .int mo)]) dX2_goOn_21 rfl (by decide) rfl ?_
    refine v_iload_n dX2_goOn_22 rfl 0 rfl ?_
    refine v_if_ge (tgt := 27) dX2_goOn_23 (by decide) (fun h7 => by first | exact absurd h7 (by decide) | exact absurd (by decide) h7) (fun _ => ?_)
    have hgo : (go1 (I 24) (I 25) (I 26) (I 28) (I 31) pp (nsW I nl na) (I 23 9) (lessC mo) (mgC23 I) pz) = mgC23 I := go1_c (s := mgC23 I) hes heg hsz hgz (fc_neg hne hlt).2
    have hI : I = va_up (mpC23 I (mgC23 I)) 32 (I 32) := by unfold mpC23 mgC23; rw [up_self, up_self, up_self, up_self]
    exact v_vret hr dX2_goOn_26 (⟨rfl, ⟨_, (by rw [hgo]; exact hI)⟩, rfl, rfl, rfl, rfl⟩)
def mpC33 (I : Ty) (s : T3) : Ty := va_up (va_up (va_up I 37 s.1) 39 s.2.1) 40 s.2.2
def mgC33 (I : Ty) : T3 := (I 37, I 39, I 40)
def mpH33 (I : Ty) (z : ZH) : Ty := va_up (mpC33 I z.1) 33 (va_up (I 33) 9 z.2)
def mgH33 (I : Ty) : ZH := (mgC33 I, I 33 9)
set_option maxRecDepth 100000 in
set_option maxHeartbeats 2000000 in
theorem c_goOn_33 {g : Gl} {I : Ty} {L : TL} {na nt ni m : Nat} {nl : Nat → Nat} (pz : Nat) (mo : Int32) (pp : Nat) (hpp : pp ≤ 6) (hpe : I 33 1 = nI pp) (hpz : pz < 6) (hxm : 2 * nt ≤ m) (hsl : sln nl nt ≤ 100) (hok : okSt (I (scell nt)) (sln nl nt)) (hch : ChOK (I 39)) (hsp : ∃ s, s < 16 ∧ I 37 pz = nI s) (hgp : ∃ s, s < 16 ∧ I 38 pz = nI s) (hnq : ¬ I 38 pz = I 37 pz) : Ct g yX2_goOn cX2_goOn 4 none 3 0 0 [.ref (g.1 + 33), .int (nI pz), .int mo] I L (RT na nt ni) (NT nl) (NB + m) (Pfa 42 none (mpC33 I (go1 (I 34) (I 35) (I 36) (I 38) (I 41) pp (nsW I nl nt) (I 33 9) (lessC mo) (mgC33 I) pz)) L (RT na nt ni) (NT nl) (NB + m)) := by
  refine ct_of (by decide +kernel) (Nat.le_of_ble_eq_true rfl) (fun F hnm hr => ?_)
  clear hnm
  show V g F cX2_goOn RX2 4 3 0 [(0, .ref (g.1 + 33)), (1, .int (nI pz)), (2, .int mo)] [] I L (RT na nt ni) (NT nl) (NB + m) 0 0
  obtain ⟨sz, hsz, hes⟩ := hsp
  obtain ⟨gz, hgz, heg⟩ := hgp
  have hne : sz ≠ gz := fun e => hnq (by rw [hes, heg, e])
  refine v_aload_n dX2_goOn_0 rfl 0 rfl ?_
  refine v_get (v := .ref (g.1 + 37)) fa_X2_21 dX2_goOn_1 rfl (by decide) (ltn rfl) rfl ?_
  refine v_iload_n dX2_goOn_4 rfl 1 rfl ?_
  refine v_iaload (len := 6) (j := pz) dX2_goOn_5 rfl (ltn rfl) rfl (by decide) rfl (by omega) ?_
  refine v_is hes ?_
  refine v_aload_n dX2_goOn_6 rfl 0 rfl ?_
  refine v_get (v := .ref (g.1 + 38)) fa_X2_24 dX2_goOn_7 rfl (by decide) (ltn rfl) rfl ?_
  refine v_iload_n dX2_goOn_10 rfl 1 rfl ?_
  refine v_iaload (len := 6) (j := pz) dX2_goOn_11 rfl (ltn rfl) rfl (by decide) rfl (by omega) ?_
  refine v_is heg ?_
  refine v_aload_n dX2_goOn_12 rfl 0 rfl ?_
  refine v_get (v := .ref (g.1 + 39)) fa_X2_27 dX2_goOn_13 rfl (by decide) (ltn rfl) rfl ?_
  refine v_iload_n dX2_goOn_16 rfl 1 rfl ?_
  refine v_iaload (len := 6) (j := pz) dX2_goOn_17 rfl (ltn rfl) rfl (by decide) rfl (by omega) ?_
  refine v_callSi (As := [.int (nI sz), .int (nI gz), .int (I 39 pz)]) (rest := []) lk_X2_93 (c_X7_firstCell sz gz (I 39 pz) (by omega) (by omega)) dX2_goOn_18 rfl rfl (Nat.le_of_ble_eq_true rfl) (by decide) ?_
  by_cases hlt : near (dst (I 39 pz) gz) sz < 99
  · refine v_is (fc_pos hne hlt).1 ?_
    have hnl := (fc_pos hne hlt).2
    have hf16 := (fstC_lt hne hnl).1
    refine v_istore_n (lv2 := [(3, .int (nI (fstC (I 39 pz) sz gz))), (0, .ref (g.1 + 33)), (1, .int (nI pz)), (2, .int mo)]) dX2_goOn_21 rfl (by decide) rfl ?_
    refine v_iload_n dX2_goOn_22 rfl 0 rfl ?_
    refine v_if_geN (a := (fstC (I 39 pz) sz gz)) (tgt := 27) dX2_goOn_23 (by decide) rfl (by omega) (fun h1 => ?_) (fun h => by exfalso; omega)
    refine v_aload_n dX2_goOn_27 rfl 1 rfl ?_
    refine v_iload_n dX2_goOn_28 rfl 2 rfl ?_
    refine v_iload_n dX2_goOn_29 rfl 0 rfl ?_
    refine v_callVfi (As := [.int (nI pz), .int (nI (fstC (I 39 pz) sz gz))]) (rest := []) lk_X2_79 (c_wel_33 (I := I) pz (fstC (I 39 pz) sz gz) pp hpp hpe (by omega) (by omega) hxm hsl hok hch) dX2_goOn_30 rfl (ltn rfl) rfl rfl (Nat.le_of_ble_eq_true rfl) (by decide) (fun fq2 => ?_)
    refine v_if_le (tgt := 44) dX2_goOn_33 (by decide) (fun h4 => ?_) (fun h4 => ?_)
    · refine v_aload_n dX2_goOn_44 rfl 1 rfl ?_
      refine v_get (v := .ref (g.1 + 39)) fa_X2_27 dX2_goOn_45 rfl (by decide) (ltn rfl) rfl ?_
      refine v_iload_n dX2_goOn_48 rfl 2 rfl ?_
      refine v_dup2 dX2_goOn_49 rfl rfl ?_
      refine v_iaload (len := 6) (j := pz) dX2_goOn_50 rfl (ltn rfl) rfl (by decide) rfl (by omega) ?_
      refine v_is (y := I 39 pz) (by rfl) ?_
      refine v_iconst (v := 1) dX2_goOn_51 (by decide) ?_
      refine v_iload_n dX2_goOn_52 rfl 0 rfl ?_
      refine v_ishl dX2_goOn_53 ?_
      refine v_ior dX2_goOn_54 ?_
      refine v_iastore (len := 6) (j := pz) dX2_goOn_55 rfl (ltn rfl) rfl (by decide) rfl (by omega) ?_
      refine v_aload_n dX2_goOn_56 rfl 1 rfl ?_
      refine v_get (v := .ref (g.1 + 40)) fa_X2_30 dX2_goOn_57 rfl (by decide) (ltn rfl) rfl ?_
      refine v_iload_n dX2_goOn_60 rfl 2 rfl ?_
      refine v_iaload (len := 6) (j := pz) dX2_goOn_61 rfl (ltn rfl) rfl (by decide) rfl (by omega) ?_
      refine v_is (y := I 40 pz) (by first | (rfl) | (simp only [va_up]; rfl) | (simp [va_up]; rfl)) ?_
      refine v_iload_n dX2_goOn_62 rfl 3 rfl ?_
      refine v_icmp_ge (tgt := 76) dX2_goOn_63 (by decide) (fun h6 => ?_) (fun h6 => ?_)
      · have hgo : (go1 (I 34) (I 35) (I 36) (I 38) (I 41) pp (nsW I nl nt) (I 33 9) (lessC mo) (mgC33 I) pz) = _ := go1_e (s := mgC33 I) hes heg hsz hgz hne hnl (Int32.not_lt.mpr h4)
        have hls : lessC mo (I 40 pz) = (I 40 pz) := ifc_f (Int32.not_lt.mpr h6)
        have hI : (wr (va_up I 42 fq2) 39 pz (I 39 pz ||| (1 <<< (nI (fstC (I 39 pz) sz gz) &&& 31)))) = va_up (mpC33 I (I 37, va_up (I 39) pz (I 39 pz ||| 1 <<< (nI (fstC (I 39 pz) sz gz) &&& 31)), (I 40))) 42 fq2 := by
          unfold mpC33
          funext a
          by_cases h37 : a = 37
          · subst h37; first | rfl | (funext jz; simp [va_up]; done)
          by_cases h39 : a = 39
          · subst h39; first | rfl | (funext jz; simp [va_up]; done)
          by_cases h40 : a = 40
          · subst h40; first | rfl | (funext jz; simp [va_up]; done)
          by_cases h42 : a = 42
          · subst h42; first | rfl | (funext jz; simp [va_up]; done)
          simp [h37, h39, h40, h42, va_up]
        exact v_vret hr dX2_goOn_76 (⟨rfl, ⟨_, (by rw [hgo]; show _ = va_up (mpC33 I (_, _, va_up (I 40) pz (lessC mo (I 40 pz)))) 42 _; rw [hls, up_self (I 40) pz]; exact hI)⟩, rfl, rfl, rfl, rfl⟩)
      · refine v_aload_n dX2_goOn_66 rfl 1 rfl ?_
        refine v_get (v := .ref (g.1 + 40)) fa_X2_30 dX2_goOn_67 rfl (by decide) (ltn rfl) rfl ?_
        refine v_iload_n dX2_goOn_70 rfl 2 rfl ?_
        refine v_dup2 dX2_goOn_71 rfl rfl ?_
        refine v_iaload (len := 6) (j := pz) dX2_goOn_72 rfl (ltn rfl) rfl (by decide) rfl (by omega) ?_
        refine v_is (y := I 40 pz) (by first | (rfl) | (simp only [va_up]; rfl) | (simp [va_up]; rfl)) ?_
        refine v_iconst (v := 1) dX2_goOn_73 (by decide) ?_
        refine v_iadd dX2_goOn_74 ?_
        refine v_iastore (len := 6) (j := pz) dX2_goOn_75 rfl (ltn rfl) rfl (by decide) rfl (by omega) ?_
        have hgo : (go1 (I 34) (I 35) (I 36) (I 38) (I 41) pp (nsW I nl nt) (I 33 9) (lessC mo) (mgC33 I) pz) = _ := go1_e (s := mgC33 I) hes heg hsz hgz hne hnl (Int32.not_lt.mpr h4)
        have hls : lessC mo (I 40 pz) = (I 40 pz + 1) := ifc_t (Int32.not_le.mp h6)
        have hI : (wr (wr (va_up I 42 fq2) 39 pz (I 39 pz ||| (1 <<< (nI (fstC (I 39 pz) sz gz) &&& 31)))) 40 pz (I 40 pz + 1)) = va_up (mpC33 I (I 37, va_up (I 39) pz (I 39 pz ||| 1 <<< (nI (fstC (I 39 pz) sz gz) &&& 31)), va_up (I 40) pz (I 40 pz + 1))) 42 fq2 := by
          unfold mpC33
          funext a
          by_cases h37 : a = 37
          · subst h37; first | rfl | (funext jz; simp [va_up]; done)
          by_cases h39 : a = 39
          · subst h39; first | rfl | (funext jz; simp [va_up]; done)
          by_cases h40 : a = 40
          · subst h40; first | rfl | (funext jz; simp [va_up]; done)
          by_cases h42 : a = 42
          · subst h42; first | rfl | (funext jz; simp [va_up]; done)
          simp [h37, h39, h40, h42, va_up]
        exact v_vret hr dX2_goOn_76 (⟨rfl, ⟨_, (by rw [hgo]; show _ = va_up (mpC33 I (_, _, va_up (I 40) pz (lessC mo (I 40 pz)))) 42 _; rw [hls]; exact hI)⟩, rfl, rfl, rfl, rfl⟩)
    · refine v_aload_n dX2_goOn_36 rfl 1 rfl ?_
      refine v_get (v := .ref (g.1 + 37)) fa_X2_21 dX2_goOn_37 rfl (by decide) (ltn rfl) rfl ?_
      refine v_iload_n dX2_goOn_40 rfl 2 rfl ?_
      refine v_iload_n dX2_goOn_41 rfl 0 rfl ?_
      refine v_iastore (len := 6) (j := pz) dX2_goOn_42 rfl (ltn rfl) rfl (by decide) rfl (by omega) ?_
      have hgo : (go1 (I 34) (I 35) (I 36) (I 38) (I 41) pp (nsW I nl nt) (I 33 9) (lessC mo) (mgC33 I) pz) = _ := go1_d (s := mgC33 I) hes heg hsz hgz hne hnl (Int32.not_le.mp h4)
      have hI : (wr (va_up I 42 fq2) 37 pz (nI (fstC (I 39 pz) sz gz))) = va_up (mpC33 I (va_up (I 37) pz (nI (fstC (I 39 pz) sz gz)), I 39, I 40)) 42 fq2 := by
        unfold mpC33
        funext a
        by_cases h37 : a = 37
        · subst h37; first | rfl | (funext jz; simp [va_up]; done)
        by_cases h39 : a = 39
        · subst h39; first | rfl | (funext jz; simp [va_up]; done)
        by_cases h40 : a = 40
        · subst h40; first | rfl | (funext jz; simp [va_up]; done)
        by_cases h42 : a = 42
        · subst h42; first | rfl | (funext jz; simp [va_up]; done)
        simp [h37, h39, h40, h42, va_up]
      exact v_vret hr dX2_goOn_43 (⟨rfl, ⟨_, (by rw [hgo]; exact hI)⟩, rfl, rfl, rfl, rfl⟩)
  · refine v_is (fc_neg hne hlt).1 ?_
    refine v_istore_n (lv2 := [(3, .int (-1)), (0, .ref (g.1 + 33)), (1, .int (nI pz)), (2, .int mo)]) dX2_goOn_21 rfl (by decide) rfl ?_
    refine v_iload_n dX2_goOn_22 rfl 0 rfl ?_
    refine v_if_ge (tgt := 27) dX2_goOn_23 (by decide) (fun h7 => by first | exact absurd h7 (by decide) | exact absurd (by decide) h7) (fun _ => ?_)
    have hgo : (go1 (I 34) (I 35) (I 36) (I 38) (I 41) pp (nsW I nl nt) (I 33 9) (lessC mo) (mgC33 I) pz) = mgC33 I := go1_c (s := mgC33 I) hes heg hsz hgz (fc_neg hne hlt).2
    have hI : I = va_up (mpC33 I (mgC33 I)) 42 (I 42) := by unfold mpC33 mgC33; rw [up_self, up_self, up_self, up_self]
    exact v_vret hr dX2_goOn_26 (⟨rfl, ⟨_, (by rw [hgo]; exact hI)⟩, rfl, rfl, rfl, rfl⟩)
