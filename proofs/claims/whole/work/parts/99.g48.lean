theorem v_callVx {g : Gl} {F : Fx} {cc : ByteArray} {own : String} {nL d pc : Nat} {lv : List (Nat × Value)} {st : List Value} {I : Ty} {L : TL} {R : TR} {N : TN} {n kr sr : Nat} {index na mL dc mc ms k ci : Nat} {y : MethodName} {bytes : ByteArray} {ret : Option FieldType} {As rest : List Value} {v0 : Value} {I0 : Ty} {L0 : TL} {R0 : TR} {N0 : TN} {n0 : Nat} (hl : LkV own index y bytes mL ret na ci) (hM : Ct g y bytes mL ret dc mc ms (.ref (g.1 + k) :: As) I L R N n (Ps (some v0) I0 L0 R0 N0 n0)) (hd : decode cc pc = .ok (.invokevirtual index, 3)) (hk : kd k = ci) (hn : k < n)
    (hna : As.length = na) (hst : st = As.reverse ++ .ref (g.1 + k) :: rest) (hrest : rest.length ≤ 4) (hdc : dc + 1 ≤ d) (kr2 sr2 : Nat) (hmc : kr = kr2 + mc) (hms : sr = sr2 + ms) (kk : V g F cc own nL d (pc + 3) lv (v0 :: rest) I0 L0 R0 N0 n0 kr2 sr2) : V g F cc own nL d pc lv st I L R N n kr sr := by
  subst hmc; subst hms
  exact v_callV hl hM hd hk hn hna hst hrest hdc (Nat.le_add_left _ _) (Nat.le_add_left _ _) (fun v I' L' R' N' n' h => by obtain ⟨rfl, rfl, rfl, rfl, rfl, rfl⟩ := h; rw [Nat.add_sub_cancel, Nat.add_sub_cancel]; exact kk)
/-- what nation() leaves where c nations are told -/
def PNa (I : Ty) (L : TL) (na nt ni : Nat) (nl : Nat → Nat) (c : Nat) (z : Nat × Option ClL) : Post := fun v I' L' R' N' n' => L' = L ∧
  ((z.2 = none ∧ v = some (.int (-10 - nI z.1)) ∧ (∃ (s2 : Nat) (n2 f2 : Int32) (t2 : Nat → Int32), I' = wr (rI I (nI z.1) (nI s2) n2 f2 t2) 15 0 0) ∧ R' = RT na nt ni ∧ N' = NT nl ∧ n' = NB + 2 * c) ∨
   (∃ (l : ClL) (n2 : Int32), z.2 = some l ∧ v = some (.int (nI c)) ∧ I' = wr (natI (wr (rI I (nI z.1) (nI (stps l).length) n2 (fdC 0 l) (putL (I 17) 0 (stps l))) 15 0 0) c (stps l).length) 0 7 (nI (c + 1)) ∧ (stps l).length ≤ 100 ∧ R' = RT (c + 1) nt ni ∧ N' = NT (va_up nl c (stps l).length) ∧ n' = NB + 2 * c + 2))
theorem c_nation8 {g : Gl} {I : Ty} {L : TL} {na nt ni c : Nat} {nl : Nat → Nat} (hc : c < 6) (hne : I 0 7 = nI c) (fd : Nat) (hf : fd ≤ 100) (hfd : I 15 0 = nI fd) (tx : Nat → Int32) (htx : I 16 = tx) (lt : Nat → Int32) (hlt : LtOK lt) : Ct g yX8_nation cX8_nation 2 (some .int) 18 2 102 [.ref (g.1 + 0)] I L (RT na nt ni) (NT nl) (NB + 2 * c) (PNa I L na nt ni nl c (txR tx lt fd 10 0 [])) := by
  refine ct_of (by decide +kernel) (Nat.le_of_ble_eq_true rfl) (fun F hnm hr => ?_)
  clear hnm
  show V g F cX8_nation RX8 2 18 0 [(0, .ref (g.1 + 0))] [] I L (RT na nt ni) (NT nl) (NB + 2 * c) 2 102
  refine v_aload_n dX8_nation_0 rfl 0 rfl ?_
  refine v_get (v := .int (I 0 7)) fa_X8_134 dX8_nation_1 rfl (by decide) (ltn rfl) rfl ?_
  refine v_is hne ?_
  refine v_bipush (v := 6) dX8_nation_4 (by decide) ?_
  refine v_icmp_ltN (a := c) (b := 6) (tgt := 12) dX8_nation_6 (by decide) rfl rfl (by omega) (by omega) (fun _ => ?_) (fun h => by exfalso; omega)
  refine v_aload_n dX8_nation_12 rfl 0 rfl ?_
  refine v_get (v := .ref (g.1 + 15)) fa_X8_24 dX8_nation_13 rfl (by decide) (ltn rfl) rfl ?_
  refine v_callPt (As := []) (rest := []) lk_X8_137 (c_X4_parseText fd hf hfd tx htx lt hlt) dX8_nation_16 rfl (ltn rfl) rfl rfl (Nat.le_of_ble_eq_true rfl) (by decide) (fun s2 n2 f2 t2 ho => ?_)
  refine v_istore_n (lv2 := [(1, .int (bq ((txR tx lt fd 10 0 []).2.isSome = true))), (0, .ref (g.1 + 0))]) dX8_nation_19 rfl (by decide) rfl ?_
  refine v_aload_n dX8_nation_20 rfl 1 rfl ?_
  refine v_get (v := .ref (g.1 + 15)) fa_X8_24 dX8_nation_21 rfl (by decide) (ltn rfl) rfl ?_
  refine v_iconst (v := 0) dX8_nation_24 (by decide) ?_
  refine v_puti pa_X8_128 dX8_nation_25 rfl (by decide) (ltn rfl) (by show 0 < 7; decide) rfl ?_
  refine v_I (I2 := wr (rI I (nI (txR tx lt fd 10 0 []).1) (nI s2) n2 f2 t2) 15 0 0) rfl ?_
  refine v_iload_n dX8_nation_28 rfl 0 rfl ?_
  refine v_ifb_ne (tgt := 43) dX8_nation_29 (by decide) (fun h => ?_) (fun h => ?_)
  · obtain ⟨l, hl⟩ := Option.isSome_iff_exists.mp h
    obtain ⟨rfl, rfl, rfl, h100⟩ := ho l hl
    refine v_aload_n dX8_nation_43 rfl 1 rfl ?_
    refine v_get (v := .ref (g.1 + 23)) fa_X8_51 dX8_nation_44 rfl (by decide) (ltn rfl) rfl ?_
    refine v_aload_n dX8_nation_47 rfl 1 rfl ?_
    refine v_get (v := .ref (g.1 + 15)) fa_X8_24 dX8_nation_48 rfl (by decide) (ltn rfl) rfl ?_
    refine v_callVx (As := []) (rest := [.ref (g.1 + 23)]) lk_X8_144 (c_newNation (s := (stps l).length) hc h100 rfl) dX8_nation_51 rfl (ltn rfl) rfl rfl (Nat.le_of_ble_eq_true rfl) (by decide) 0 0 rfl rfl ?_
    refine v_putr (t := NB + 2 * c + 1) pa_X8_148 dX8_nation_54 rfl (by decide) (by unfold NB; omega) (by show 10 < 13; decide) ((show ∀ (Ik : Nat → Int32) (Rk : Nat → Option Nat), (fld g.1 Ik Rk 2).set 10 (.ref (g.1 + (NB + 2 * c + 1))) = fld g.1 Ik (va_up Rk 10 (some (NB + 2 * c + 1))) 2 from fun _ _ => rfl) _ _) ?_
    refine v_Req (R2 := RT (c + 1) nt ni) (by rw [← nc_s]; exact RT_put_na _ _ _ _) ?_
    generalize hJ : natI (wr (rI I (nI (txR tx lt fd 10 0 []).1) (nI (stps l).length) n2 (fdC 0 l) (putL (I 17) 0 (stps l))) 15 0 0) c (stps l).length = J
    have h5 : J 0 7 = nI c := by
      rw [← hJ]; unfold natI
      rw [up_off _ _ (by unfold NB; omega), up_off _ _ (by unfold NB; omega)]
      exact hne
    refine v_aload_n dX8_nation_57 rfl 1 rfl ?_
    refine v_dup dX8_nation_58 rfl ?_
    refine v_get (v := .int (J 0 7)) fa_X8_134 dX8_nation_59 rfl (by decide) (by unfold NB; omega) rfl ?_
    refine v_is h5 ?_
    refine v_iconst (v := 1) dX8_nation_62 (by decide) ?_
    refine v_iadd dX8_nation_63 ?_
    refine v_is (nx_add (a := c) (b := 1) rfl rfl) ?_
    refine v_puti pa_X8_134 dX8_nation_64 rfl (by decide) (by unfold NB; omega) (by show 7 < 10; decide) rfl ?_
    refine v_I (I2 := wr J 0 7 (nI (c + 1))) rfl ?_
    refine v_aload_n dX8_nation_67 rfl 1 rfl ?_
    refine v_get (v := .int (nI (c + 1))) fa_X8_134 dX8_nation_68 rfl (by decide) (by unfold NB; omega) rfl ?_
    refine v_iconst (v := 1) dX8_nation_71 (by decide) ?_
    refine v_isub dX8_nation_72 ?_
    refine v_is (y := nI c) (nx_sub (a := c + 1) (b := 1) rfl rfl (by omega)) ?_
    exact v_iret hr dX8_nation_73 ⟨rfl, Or.inr ⟨l, n2, hl, rfl, by rw [hJ], h100, rfl, rfl, rfl⟩⟩
  · have hn : (txR tx lt fd 10 0 []).2 = none := Option.not_isSome_iff_eq_none.mp h
    refine v_bipush (v := (-10)) dX8_nation_32 (by decide) ?_
    refine v_aload_n dX8_nation_34 rfl 1 rfl ?_
    refine v_get (v := .ref (g.1 + 15)) fa_X8_24 dX8_nation_35 rfl (by decide) (ltn rfl) rfl ?_
    refine v_get (v := .int (nI (txR tx lt fd 10 0 []).1)) fa_X8_141 dX8_nation_38 rfl (by decide) (ltn rfl) rfl ?_
    refine v_isub dX8_nation_41 ?_
    exact v_iret hr dX8_nation_42 ⟨rfl, Or.inl ⟨hn, rfl, ⟨s2, n2, f2, t2, rfl⟩, rfl, rfl, rfl⟩⟩
theorem c_nation8f {g : Gl} {I : Ty} {L : TL} {na nt ni m : Nat} {nl : Nat → Nat} (hne : I 0 7 = nI 6) : Ct g yX8_nation cX8_nation 2 (some .int) 18 2 102 [.ref (g.1 + 0)] I L (RT na nt ni) (NT nl) (NB + m) (Ps (some (.int (-4))) I L (RT na nt ni) (NT nl) (NB + m)) := by
  refine ct_of (by decide +kernel) (Nat.le_of_ble_eq_true rfl) (fun F hnm hr => ?_)
  clear hnm
  show V g F cX8_nation RX8 2 18 0 [(0, .ref (g.1 + 0))] [] I L (RT na nt ni) (NT nl) (NB + m) 2 102
  refine v_aload_n dX8_nation_0 rfl 0 rfl ?_
  refine v_get (v := .int (I 0 7)) fa_X8_134 dX8_nation_1 rfl (by decide) (ltn rfl) rfl ?_
  refine v_is hne ?_
  refine v_bipush (v := 6) dX8_nation_4 (by decide) ?_
  refine v_icmp_ltN (a := 6) (b := 6) (tgt := 12) dX8_nation_6 (by decide) rfl rfl (by omega) (by omega) (fun h => absurd h (by decide)) (fun _ => ?_)
  refine v_bipush (v := (-4)) dX8_nation_9 (by decide) ?_
  exact v_iret hr dX8_nation_11 ⟨rfl, rfl, rfl, rfl, rfl, rfl⟩
