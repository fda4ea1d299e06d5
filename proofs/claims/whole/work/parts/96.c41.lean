/-- the letters of the words -/
def ltL : List Int32 := [111, 112, 101, 110, 115, 104, 117, 116, 102, 97, 100, 101]
def LtOK (lt : Nat → Int32) : Prop := ∀ k, k < 12 → lt k = ltL.getD k 0
section
variable {tx lt : Nat → Int32} {fd a : Nat}
theorem frst_congr {P Q : Nat → Prop} {n : Nat} (h : ∀ k, k < n → (P k ↔ Q k)) : frst P n = frst Q n := by
  have e : (fun k => k = n ∨ P k) = (fun k => k = n ∨ Q k) ∨ True := Or.inr trivial
  obtain ⟨h1, h2⟩ := (frst_ex Q n).choose_spec
  have hle : frst Q n ≤ n := frst_le Q n
  refine frst_eq hle ?_ (fun j hj q => ?_)
  · rcases h1 with h1 | h1
    · exact Or.inl h1
    · by_cases e : frst Q n = n
      · exact Or.inl e
      · exact Or.inr ((h _ (by omega)).mpr h1)
  · exact h2 j hj (Or.inr ((h j (by omega)).mp q))
theorem wl_S {i fz : Nat} (hlt : LtOK lt) (hi : i < 3) (hz : fz = [8, 0, 4].getD i 0) : wl tx lt fd fz 4 a = wlS tx fd i a := by
  have hl : strLen.getD i 0 = 4 + 1 := by
    rcases (show i = 0 ∨ i = 1 ∨ i = 2 by omega) with e | e | e <;> subst e <;> rfl
  unfold wl wlS
  rw [hl]
  refine frst_congr (fun k hk => ?_)
  have key : ifc (k < 4) (lt (fz + k)) 32 = chS i k := by
    by_cases h : k < 4
    · rw [ifc_t h, hlt _ (by rcases (show i = 0 ∨ i = 1 ∨ i = 2 by omega) with e | e | e <;> subst e <;> subst hz <;> first | (show 8 + k < 12; omega) | (show 0 + k < 12; omega) | (show 4 + k < 12; omega))]
      have k2 : ∀ i, i < 3 → ∀ k, k < 4 → ltL.getD ([8, 0, 4].getD i 0 + k) 0 = chS i k := by decide +kernel
      rw [hz]; exact k2 i hi k h
    · have e : k = 4 := by omega
      subst e
      rw [ifc_f h]
      have k2 : ∀ i, i < 3 → (32 : Int32) = chS i 4 := by decide +kernel
      exact k2 i hi
  rw [key]
theorem hd_f (hlt : LtOK lt) (h : nxt tx fd a = 102) : hdL tx lt fd a = wlS tx fd 0 a ∧ hdW tx fd a = 2 := by
  unfold hdL hdF hdW
  rw [h, ifc_f (by decide), ifc_f (by decide), ifc_f (by decide), ifc_f (by decide)]
  exact ⟨wl_S hlt (by decide) rfl, rfl⟩
theorem hd_o (hlt : LtOK lt) (h : nxt tx fd a = 111) : hdL tx lt fd a = wlS tx fd 1 a ∧ hdW tx fd a = 0 := by
  unfold hdL hdF hdW
  rw [h, ifc_t rfl, ifc_t rfl]
  exact ⟨wl_S hlt (by decide) rfl, rfl⟩
theorem hd_s (hlt : LtOK lt) (h1 : ¬ nxt tx fd a = 102) (h2 : ¬ nxt tx fd a = 111) : hdL tx lt fd a = wlS tx fd 2 a ∧ (wlS tx fd 2 a = strLen.getD 2 0 → hdW tx fd a = 1) := by
  unfold hdL hdF hdW
  by_cases h3 : nxt tx fd a = 115
  · rw [h3, ifc_f (by decide), ifc_t rfl, ifc_f (by decide), ifc_t rfl]
    exact ⟨wl_S hlt (by decide) rfl, fun _ => rfl⟩
  · rw [ifc_f h2, ifc_f h3, ifc_f h2, ifc_f h3]
    have e0 : wlS tx fd 2 a = 0 := wlS_no (k := 0) (by decide) (fun j hj => absurd hj (Nat.not_lt_zero j)) h3
    have e1 : wlS tx fd 0 a = 0 := wlS_no (k := 0) (by decide) (fun j hj => absurd hj (Nat.not_lt_zero j)) h1
    refine ⟨(wl_S (i := 0) hlt (by decide) rfl).trans (e1.trans e0.symm), fun q => ?_⟩
    rw [e0] at q; exact absurd q (by decide)
theorem clR_hd (h : ¬ (hdL tx lt fd a = 4 + 1 ∧ digP (nxt tx fd (a + hdL tx lt fd a)))) : clR tx lt fd a = (a + hdL tx lt fd a, none) := by unfold clR; exact ifc_f h
theorem clR_fd (h : hdL tx lt fd a = 4 + 1 ∧ digP (nxt tx fd (a + hdL tx lt fd a))) (hw : hdW tx fd a = 2) : clR tx lt fd a = (tnA tx fd (a + hdL tx lt fd a), some (2, clN tx fd (a + hdL tx lt fd a), [])) := by unfold clR; exact (ifc_t h).trans (ifc_t hw)
theorem clR_ns (h : hdL tx lt fd a = 4 + 1 ∧ digP (nxt tx fd (a + hdL tx lt fd a))) (hw : ¬ hdW tx fd a = 2) (h32 : ¬ nxt tx fd (tnA tx fd (a + hdL tx lt fd a)) = 32) : clR tx lt fd a = (tnA tx fd (a + hdL tx lt fd a), none) := by unfold clR; exact (ifc_t h).trans ((ifc_f hw).trans (ifc_f h32))
theorem clR_sp (h : hdL tx lt fd a = 4 + 1 ∧ digP (nxt tx fd (a + hdL tx lt fd a))) (hw : ¬ hdW tx fd a = 2) (h32 : nxt tx fd (tnA tx fd (a + hdL tx lt fd a)) = 32) : clR tx lt fd a = ((eitR tx fd (tnA tx fd (a + hdL tx lt fd a) + 1)).1, (eitR tx fd (tnA tx fd (a + hdL tx lt fd a) + 1)).2.map (fun o => (hdW tx fd a, clN tx fd (a + hdL tx lt fd a), o))) := by unfold clR; exact (ifc_t h).trans ((ifc_f hw).trans (ifc_t h32))
theorem map_no {z : PR} {f : List Tk → Int32 × Int32 × List Tk} (h : ¬ z.2.isSome = true) : z.2.map f = none := by
  cases e : z.2 with
  | none => rfl
  | some o => rw [e] at h; exact absurd rfl h
end
noncomputable def adc (w k : Int32) : Int32 := ((ifc (w = 0) k (-k)) <<< (4 &&& 31)) ||| 3
noncomputable def stL (c : Int32 × Int32 × List Tk) : List Int32 := ifc (c.1 = 2) [] (c.2.2.map ccd ++ [adc c.1 c.2.1])
/-- what a clause's parsing leaves -/
def Pcr (I : Ty) (L0 : TL) (R0 : TR) (N0 : TN) (n0 sz : Nat) (fa : Int32) (st : Nat → Int32) (z : CR) : Post := fun v I' L R N n => v = some (.int (bq (z.2.isSome = true))) ∧ (∃ (s2 : Nat) (n2 f2 : Int32) (t2 : Nat → Int32), I' = rI I (nI z.1) (nI s2) n2 f2 t2 ∧ ∀ c, z.2 = some c → s2 = sz + (stL c).length ∧ t2 = putL st sz (stL c) ∧ f2 = ifc (c.1 = 2) c.2.1 fa) ∧ L = L0 ∧ R = R0 ∧ N = N0 ∧ n = n0
section
variable {I : Ty} {L : TL} {R : TR} {N : TN} {n a sz s2 : Nat} {fa n2 f2 : Int32} {st t2 : Nat → Int32}
theorem v_callPc {g : Gl} {F : Fx} {cc : ByteArray} {own : String} {nL d pc : Nat} {lv : List (Nat × Value)} {sk : List Value} {J : Ty} {kr sr index na mL dc k ci : Nat} {y : MethodName} {bytes : ByteArray} {ret : Option FieldType} {As rest : List Value} {z : CR} (hl : LkV own index y bytes mL ret na ci) (hM : Ct g y bytes mL ret dc 0 0 (.ref (g.1 + k) :: As) J L R N n (Pcr I L R N n sz fa st z)) (hd : decode cc pc = .ok (.invokevirtual index, 3)) (hk : kd k = ci) (hn : k < n)
    (hna : As.length = na) (hst : sk = As.reverse ++ .ref (g.1 + k) :: rest) (hrest : rest.length ≤ 4) (hdc : dc + 1 ≤ d)
    (kk : ∀ (s2 : Nat) (n2 f2 : Int32) (t2 : Nat → Int32), (∀ c, z.2 = some c → s2 = sz + (stL c).length ∧ t2 = putL st sz (stL c) ∧ f2 = ifc (c.1 = 2) c.2.1 fa) → V g F cc own nL d (pc + 3) lv (.int (bq (z.2.isSome = true)) :: rest) (rI I (nI z.1) (nI s2) n2 f2 t2) L R N n kr sr) : V g F cc own nL d pc lv sk J L R N n kr sr :=
  v_callV hl hM hd hk hn hna hst hrest hdc (Nat.zero_le _) (Nat.zero_le _) (fun v' I' L' R' N' n' h => by obtain ⟨rfl, ⟨s2, n2, f2, t2, rfl, h1⟩, rfl, rfl, rfl, rfl⟩ := h; exact kk s2 n2 f2 t2 h1)
theorem pcr_none : Pcr I L R N n sz fa st (a, none) (some (.int 0)) (rI I (nI a) (nI s2) n2 f2 t2) L R N n := ⟨congrArg (fun z => some (Value.int z)) (bq_f (by intro q; cases q)).symm, ⟨s2, n2, f2, t2, rfl, fun o q => by cases q⟩, rfl, rfl, rfl, rfl⟩
theorem pcr_fade {k : Int32} : Pcr I L R N n sz fa st (a, some (2, k, [])) (some (.int 1)) (rI I (nI a) (nI sz) n2 k st) L R N n := by
  refine ⟨congrArg (fun z => some (Value.int z)) (bq_t rfl).symm, ⟨sz, n2, k, st, rfl, fun c q => ?_⟩, rfl, rfl, rfl, rfl⟩
  cases q
  have e : stL (2, k, []) = [] := ifc_t rfl
  rw [e]
  exact ⟨rfl, rfl, (ifc_t rfl).symm⟩
theorem pcr_add {w k amt : Int32} {o : List Tk} (hw : ¬ w = 2) (ha : amt = ifc (w = 0) k (-k)) : Pcr I L R N n sz fa st (a, some (w, k, o)) (some (.int 1)) (rI I (nI a) (nI (sz + o.length + 1)) n2 fa (va_up (putL st sz (o.map ccd)) (sz + o.length) ((amt <<< (4 &&& 31)) ||| 3))) L R N n := by
  refine ⟨congrArg (fun z => some (Value.int z)) (bq_t rfl).symm, ⟨_, n2, fa, _, rfl, fun c q => ?_⟩, rfl, rfl, rfl, rfl⟩
  cases q
  have e : stL (w, k, o) = o.map ccd ++ [adc w k] := ifc_f hw
  rw [e, ha]
  refine ⟨?_, ?_, (ifc_f hw).symm⟩
  · rw [List.length_append, List.length_map, Nat.add_assoc]; rfl
  · rw [← putL_app, List.length_map]; rfl
end
set_option maxRecDepth 100000 in
set_option maxHeartbeats 2000000 in
theorem c_X4_parseClause {g : Gl} {I : Ty} {L : TL} {na nt ni m : Nat} {nl : Nat → Nat}  (az sz : Nat) (nu fa : Int32) (st : Nat → Int32) (fd : Nat) (hf : fd ≤ 100) (hfd : I 15 0 = nI fd) (tx : Nat → Int32) (htx : I 16 = tx) (lt : Nat → Int32) (hlt : LtOK lt) (ha : az ≤ fd) (hs : sz ≤ az) : Ct g yX4_parseClause cX4_parseClause 3 (some .boolean) 16 0 0 [.ref (g.1 + 15)] (rI I (nI az) (nI sz) nu fa st) L (RT na nt ni) (NT nl) (NB + m) (Pcr I L (RT na nt ni) (NT nl) (NB + m) sz fa st (clR tx lt fd az)) := by
  refine ct_of (by decide +kernel) (Nat.le_of_ble_eq_true rfl) (fun F hnm hr => ?_)
  clear hnm
  show V g F cX4_parseClause RX4 3 16 0 [(0, .ref (g.1 + 15))] [] (rI I (nI az) (nI sz) nu fa st) L (RT na nt ni) (NT nl) (NB + m) 0 0
  have e50 : strLen.getD 0 0 = 5 := rfl
  have e51 : strLen.getD 1 0 = 5 := rfl
  have e52 : strLen.getD 2 0 = 5 := rfl
  refine v_aload_n dX4_parseClause_0 rfl 0 rfl ?_
  refine v_callVi (As := []) (rest := []) lk_X4_48 (c_X4_sign az sz nu fa st fd hf hfd tx htx (by omega)) dX4_parseClause_1 rfl (ltn rfl) rfl rfl (Nat.le_of_ble_eq_true rfl) (by decide) ?_
  refine v_bipush (v := 102) dX4_parseClause_4 (by decide) ?_
  refine v_icmp_ne (tgt := 37) dX4_parseClause_6 (by decide) (fun h2 => ?_) (fun h2 => ?_)
  · refine v_aload_n dX4_parseClause_37 rfl 0 rfl ?_
    refine v_callVi (As := []) (rest := []) lk_X4_48 (c_X4_sign az sz nu fa st fd hf hfd tx htx (by omega)) dX4_parseClause_38 rfl (ltn rfl) rfl rfl (Nat.le_of_ble_eq_true rfl) (by decide) ?_
    refine v_bipush (v := 111) dX4_parseClause_41 (by decide) ?_
    refine v_icmp_ne (tgt := 50) dX4_parseClause_43 (by decide) (fun h4 => ?_) (fun h4 => ?_)
    · obtain ⟨hhl, hhs⟩ := hd_s hlt h2 h4
      refine v_iconst (v := 0) dX4_parseClause_50 (by decide) ?_
      refine v_istore_n (lv2 := [(1, .int 0), (0, .ref (g.1 + 15))]) dX4_parseClause_51 rfl (by decide) rfl ?_
      refine v_aload_n dX4_parseClause_52 rfl 1 rfl ?_
      refine v_iload_n dX4_parseClause_53 rfl 0 rfl ?_
      refine v_if_eq (tgt := 62) dX4_parseClause_54 (by decide) (fun _ => ?_) (fun h5 => by first | exact absurd h5 (by decide) | exact absurd (by decide) h5)
      refine v_ldcs (i := 2) lz_X4_66 dX4_parseClause_62 ?_
      refine v_callVi (As := [.ref (g.2.2.2.2.1 2)]) (rest := []) lk_X4_54 (c_X4_takeWord az sz nu fa st fd hf hfd tx htx 2 (by decide) (by omega)) dX4_parseClause_64 rfl (ltn rfl) rfl rfl (Nat.le_of_ble_eq_true rfl) (by decide) ?_
      refine v_ifb_eq (tgt := 77) dX4_parseClause_67 (by decide) (fun h6 => ?_) (fun h6 => ?_)
      · -- not (wlS tx fd 2 az = strLen.getD 2 0)
        refine v_iconst (v := 0) dX4_parseClause_77 (by decide) ?_
        exact v_zret hr dX4_parseClause_78 (by first | rfl | exact nbq) (by (rw [clR_hd (fun q => h6 (hhl.symm.trans q.1)), hhl]; exact pcr_none))
      · -- (wlS tx fd 2 az = strLen.getD 2 0)
        have hhw := hhs h6
        refine v_aload_n dX4_parseClause_70 rfl 1 rfl ?_
        refine v_callVi (As := []) (rest := []) lk_X4_58 (c_X4_parseNumber (az + wlS tx fd 2 az) sz nu fa st fd hf hfd tx htx (by omega)) dX4_parseClause_71 rfl (ltn rfl) rfl rfl (Nat.le_of_ble_eq_true rfl) (by decide) ?_
        refine v_ifb_ne (tgt := 79) dX4_parseClause_74 (by decide) (fun h7 => ?_) (fun h7 => ?_)
        · -- (digP (nxt tx fd (az + wlS tx fd 2 az)))
          have hcd : hdL tx lt fd az = 4 + 1 ∧ digP (nxt tx fd (az + hdL tx lt fd az)) := by rw [hhl]; exact ⟨h6, h7⟩
          have hcn := tnD_cl (dz := nu) h7
          have hta := tnA_le h7
          have hw2 : ¬ hdW tx fd az = 2 := by rw [hhw]; decide
          refine v_iload_n dX4_parseClause_79 rfl 0 rfl ?_
          refine v_if_eq (tgt := 90) dX4_parseClause_80 (by decide) (fun _ => ?_) (fun h8 => by first | exact absurd h8 (by decide) | exact absurd (by decide) h8)
          refine v_aload_n dX4_parseClause_90 rfl 1 rfl ?_
          refine v_get (v := .int ((rI I (nI (tnA tx fd (az + wlS tx fd 2 az))) (nI sz) (tnD tx fd (az + wlS tx fd 2 az) nu) fa st) 15 5)) fa_X4_61 dX4_parseClause_91 rfl (by decide) (ltn rfl) rfl ?_
          refine v_is (y := (tnD tx fd (az + wlS tx fd 2 az) nu)) (by rfl) ?_
          refine v_ineg dX4_parseClause_94 ?_
          refine v_istore_n (lv2 := [(2, .int (-(tnD tx fd (az + wlS tx fd 2 az) nu))), (1, .int 0), (0, .ref (g.1 + 15))]) dX4_parseClause_95 rfl (by decide) rfl ?_
          refine v_aload_n dX4_parseClause_96 rfl 2 rfl ?_
          refine v_bipush (v := 32) dX4_parseClause_97 (by decide) ?_
          refine v_callVi (As := [.int 32]) (rest := []) lk_X4_33 (c_X4_takeSign 32 (tnA tx fd (az + wlS tx fd 2 az)) sz (tnD tx fd (az + wlS tx fd 2 az) nu) fa st fd hf hfd tx htx (by omega)) dX4_parseClause_99 rfl (ltn rfl) rfl rfl (Nat.le_of_ble_eq_true rfl) (by decide) ?_
          refine v_ifb_eq (tgt := 113) dX4_parseClause_102 (by decide) (fun h9 => ?_) (fun h9 => ?_)
          · -- not (nxt tx fd (tnA tx fd (az + wlS tx fd 2 az)) = 32)
            refine v_I (I2 := (rI I (nI (tnA tx fd (az + wlS tx fd 2 az))) (nI sz) (tnD tx fd (az + wlS tx fd 2 az) nu) fa st)) (by rw [ifc_f h9]) ?_
            refine v_iconst (v := 0) dX4_parseClause_113 (by decide) ?_
            exact v_zret hr dX4_parseClause_114 (by first | rfl | exact nbq) (by (rw [clR_ns hcd hw2 (by rw [hhl]; exact h9), hhl]; exact pcr_none))
          · -- (nxt tx fd (tnA tx fd (az + wlS tx fd 2 az)) = 32)
            have h32 : nxt tx fd (tnA tx fd (az + hdL tx lt fd az)) = 32 := by rw [hhl]; exact h9
            have hlq := nxt_eq h9 (by decide)
            refine v_I (I2 := (rI I (nI ((tnA tx fd (az + wlS tx fd 2 az)) + 1)) (nI sz) (tnD tx fd (az + wlS tx fd 2 az) nu) fa st)) (by rw [ifc_t h9]) ?_
            refine v_aload_n dX4_parseClause_105 rfl 2 rfl ?_
            refine v_iconst (v := 0) dX4_parseClause_106 (by decide) ?_
            refine v_callPs (As := [.int 0]) (rest := []) lk_X4_68 (c_ei_4 ((tnA tx fd (az + wlS tx fd 2 az)) + 1) sz (tnD tx fd (az + wlS tx fd 2 az) nu) fa st fd hf hfd tx htx (by omega) (by omega)) dX4_parseClause_107 rfl (ltn rfl) rfl rfl (Nat.le_of_ble_eq_true rfl) (by decide) (fun s10 ng11 tg12 ho13 => ?_)
            refine v_ifb_ne (tgt := 115) dX4_parseClause_110 (by decide) (fun h14 => ?_) (fun h14 => ?_)
            · -- ((eiL tx fd (sngR tx fd 4) 100 false false ((tnA tx fd (az + wlS tx fd 2 az)) + 1) []).2.isSome = true)
              obtain ⟨co, hc⟩ := Option.isSome_iff_exists.mp h14
              obtain ⟨rfl, rfl⟩ := ho13 co hc
              have hq1 := eit_len (tx := tx) (fd := fd) (a := tnA tx fd (az + wlS tx fd 2 az) + 1) (Prod.ext rfl hc)
              have hq2 := eit_in (tx := tx) (fd := fd) (a := tnA tx fd (az + wlS tx fd 2 az) + 1) (by omega)
              have hq3 : co.length + (tnA tx fd (az + wlS tx fd 2 az) + 1) ≤ (eiL tx fd (sngR tx fd 4) 100 false false (tnA tx fd (az + wlS tx fd 2 az) + 1) []).1 ∧ (eiL tx fd (sngR tx fd 4) 100 false false (tnA tx fd (az + wlS tx fd 2 az) + 1) []).1 ≤ fd := ⟨hq1, hq2⟩
              refine v_aload_n dX4_parseClause_115 rfl 2 rfl ?_
              refine v_iconst (v := 3) dX4_parseClause_116 (by decide) ?_
              refine v_iload_n dX4_parseClause_117 rfl 0 rfl ?_
              refine v_callVv (As := [.int 3, .int (-(tnD tx fd (az + wlS tx fd 2 az) nu))]) (rest := []) lk_X4_72 (c_X4_addStep 3 (-(tnD tx fd (az + wlS tx fd 2 az) nu)) ((eiL tx fd (sngR tx fd 4) 100 false false ((tnA tx fd (az + wlS tx fd 2 az)) + 1) []).1) (sz + co.length) ng11 fa (putL st sz (co.map ccd)) fd hf hfd tx htx (by omega)) dX4_parseClause_118 rfl (ltn rfl) rfl rfl (Nat.le_of_ble_eq_true rfl) (by decide) ?_
              refine v_iconst (v := 1) dX4_parseClause_121 (by decide) ?_
              exact v_zret hr dX4_parseClause_122 (by first | rfl | exact nbq) (by (rw [clR_sp hcd hw2 h32, hhl, show (eitR tx fd (tnA tx fd (az + wlS tx fd 2 az) + 1)).2 = some co from hc, hhw]; exact pcr_add (by decide) ((congrArg (fun z => -z) hcn).trans (ifc_f (by decide)).symm)))
            · -- not ((eiL tx fd (sngR tx fd 4) 100 false false ((tnA tx fd (az + wlS tx fd 2 az)) + 1) []).2.isSome = true)
              refine v_iconst (v := 0) dX4_parseClause_113 (by decide) ?_
              exact v_zret hr dX4_parseClause_114 (by first | rfl | exact nbq) (by (rw [clR_sp hcd hw2 h32, hhl, map_no (z := eitR tx fd (tnA tx fd (az + wlS tx fd 2 az) + 1)) h14]; exact pcr_none))
        · -- not (digP (nxt tx fd (az + wlS tx fd 2 az)))
          refine v_iconst (v := 0) dX4_parseClause_77 (by decide) ?_
          exact v_zret hr dX4_parseClause_78 (by first | rfl | exact nbq) (by (rw [clR_hd (fun q => h7 (by have q2 := q.2; rw [hhl] at q2; exact q2)), hhl, tnA_no h7]; exact pcr_none))
    · obtain ⟨hhl, hhw⟩ := hd_o hlt h4
      refine v_iconst (v := 1) dX4_parseClause_46 (by decide) ?_
      refine v_goto (tgt := 51) dX4_parseClause_47 (by decide) ?_
      refine v_istore_n (lv2 := [(1, .int 1), (0, .ref (g.1 + 15))]) dX4_parseClause_51 rfl (by decide) rfl ?_
      refine v_aload_n dX4_parseClause_52 rfl 1 rfl ?_
      refine v_iload_n dX4_parseClause_53 rfl 0 rfl ?_
      refine v_if_eq (tgt := 62) dX4_parseClause_54 (by decide) (fun h15 => by first | exact absurd h15 (by decide) | exact absurd (by decide) h15) (fun _ => ?_)
      refine v_ldcs (i := 1) lz_X4_64 dX4_parseClause_57 ?_
      refine v_goto (tgt := 64) dX4_parseClause_59 (by decide) ?_
      refine v_callVi (As := [.ref (g.2.2.2.2.1 1)]) (rest := []) lk_X4_54 (c_X4_takeWord az sz nu fa st fd hf hfd tx htx 1 (by decide) (by omega)) dX4_parseClause_64 rfl (ltn rfl) rfl rfl (Nat.le_of_ble_eq_true rfl) (by decide) ?_
      refine v_ifb_eq (tgt := 77) dX4_parseClause_67 (by decide) (fun h16 => ?_) (fun h16 => ?_)
      · -- not (wlS tx fd 1 az = strLen.getD 1 0)
        refine v_iconst (v := 0) dX4_parseClause_77 (by decide) ?_
        exact v_zret hr dX4_parseClause_78 (by first | rfl | exact nbq) (by (rw [clR_hd (fun q => h16 (hhl.symm.trans q.1)), hhl]; exact pcr_none))
      · -- (wlS tx fd 1 az = strLen.getD 1 0)
        refine v_aload_n dX4_parseClause_70 rfl 1 rfl ?_
        refine v_callVi (As := []) (rest := []) lk_X4_58 (c_X4_parseNumber (az + wlS tx fd 1 az) sz nu fa st fd hf hfd tx htx (by omega)) dX4_parseClause_71 rfl (ltn rfl) rfl rfl (Nat.le_of_ble_eq_true rfl) (by decide) ?_
        refine v_ifb_ne (tgt := 79) dX4_parseClause_74 (by decide) (fun h17 => ?_) (fun h17 => ?_)
        · -- (digP (nxt tx fd (az + wlS tx fd 1 az)))
          have hcd : hdL tx lt fd az = 4 + 1 ∧ digP (nxt tx fd (az + hdL tx lt fd az)) := by rw [hhl]; exact ⟨h16, h17⟩
          have hcn := tnD_cl (dz := nu) h17
          have hta := tnA_le h17
          have hw2 : ¬ hdW tx fd az = 2 := by rw [hhw]; decide
          refine v_iload_n dX4_parseClause_79 rfl 0 rfl ?_
          refine v_if_eq (tgt := 90) dX4_parseClause_80 (by decide) (fun h18 => by first | exact absurd h18 (by decide) | exact absurd (by decide) h18) (fun _ => ?_)
          refine v_aload_n dX4_parseClause_83 rfl 1 rfl ?_
          refine v_get (v := .int ((rI I (nI (tnA tx fd (az + wlS tx fd 1 az))) (nI sz) (tnD tx fd (az + wlS tx fd 1 az) nu) fa st) 15 5)) fa_X4_61 dX4_parseClause_84 rfl (by decide) (ltn rfl) rfl ?_
          refine v_is (y := (tnD tx fd (az + wlS tx fd 1 az) nu)) (by rfl) ?_
          refine v_goto (tgt := 95) dX4_parseClause_87 (by decide) ?_
          refine v_istore_n (lv2 := [(2, .int (tnD tx fd (az + wlS tx fd 1 az) nu)), (1, .int 1), (0, .ref (g.1 + 15))]) dX4_parseClause_95 rfl (by decide) rfl ?_
          refine v_aload_n dX4_parseClause_96 rfl 2 rfl ?_
          refine v_bipush (v := 32) dX4_parseClause_97 (by decide) ?_
          refine v_callVi (As := [.int 32]) (rest := []) lk_X4_33 (c_X4_takeSign 32 (tnA tx fd (az + wlS tx fd 1 az)) sz (tnD tx fd (az + wlS tx fd 1 az) nu) fa st fd hf hfd tx htx (by omega)) dX4_parseClause_99 rfl (ltn rfl) rfl rfl (Nat.le_of_ble_eq_true rfl) (by decide) ?_
          refine v_ifb_eq (tgt := 113) dX4_parseClause_102 (by decide) (fun h19 => ?_) (fun h19 => ?_)
          · -- not (nxt tx fd (tnA tx fd (az + wlS tx fd 1 az)) = 32)
            refine v_I (I2 := (rI I (nI (tnA tx fd (az + wlS tx fd 1 az))) (nI sz) (tnD tx fd (az + wlS tx fd 1 az) nu) fa st)) (by rw [ifc_f h19]) ?_
            refine v_iconst (v := 0) dX4_parseClause_113 (by decide) ?_
            exact v_zret hr dX4_parseClause_114 (by first | rfl | exact nbq) (by (rw [clR_ns hcd hw2 (by rw [hhl]; exact h19), hhl]; exact pcr_none))
          · -- (nxt tx fd (tnA tx fd (az + wlS tx fd 1 az)) = 32)
            have h32 : nxt tx fd (tnA tx fd (az + hdL tx lt fd az)) = 32 := by rw [hhl]; exact h19
            have hlq := nxt_eq h19 (by decide)
            refine v_I (I2 := (rI I (nI ((tnA tx fd (az + wlS tx fd 1 az)) + 1)) (nI sz) (tnD tx fd (az + wlS tx fd 1 az) nu) fa st)) (by rw [ifc_t h19]) ?_
            refine v_aload_n dX4_parseClause_105 rfl 2 rfl ?_
            refine v_iconst (v := 0) dX4_parseClause_106 (by decide) ?_
            refine v_callPs (As := [.int 0]) (rest := []) lk_X4_68 (c_ei_4 ((tnA tx fd (az + wlS tx fd 1 az)) + 1) sz (tnD tx fd (az + wlS tx fd 1 az) nu) fa st fd hf hfd tx htx (by omega) (by omega)) dX4_parseClause_107 rfl (ltn rfl) rfl rfl (Nat.le_of_ble_eq_true rfl) (by decide) (fun s20 ng21 tg22 ho23 => ?_)
            refine v_ifb_ne (tgt := 115) dX4_parseClause_110 (by decide) (fun h24 => ?_) (fun h24 => ?_)
            · -- ((eiL tx fd (sngR tx fd 4) 100 false false ((tnA tx fd (az + wlS tx fd 1 az)) + 1) []).2.isSome = true)
              obtain ⟨co, hc⟩ := Option.isSome_iff_exists.mp h24
              obtain ⟨rfl, rfl⟩ := ho23 co hc
              have hq1 := eit_len (tx := tx) (fd := fd) (a := tnA tx fd (az + wlS tx fd 1 az) + 1) (Prod.ext rfl hc)
              have hq2 := eit_in (tx := tx) (fd := fd) (a := tnA tx fd (az + wlS tx fd 1 az) + 1) (by omega)
              have hq3 : co.length + (tnA tx fd (az + wlS tx fd 1 az) + 1) ≤ (eiL tx fd (sngR tx fd 4) 100 false false (tnA tx fd (az + wlS tx fd 1 az) + 1) []).1 ∧ (eiL tx fd (sngR tx fd 4) 100 false false (tnA tx fd (az + wlS tx fd 1 az) + 1) []).1 ≤ fd := ⟨hq1, hq2⟩
              refine v_aload_n dX4_parseClause_115 rfl 2 rfl ?_
              refine v_iconst (v := 3) dX4_parseClause_116 (by decide) ?_
              refine v_iload_n dX4_parseClause_117 rfl 0 rfl ?_
              refine v_callVv (As := [.int 3, .int (tnD tx fd (az + wlS tx fd 1 az) nu)]) (rest := []) lk_X4_72 (c_X4_addStep 3 (tnD tx fd (az + wlS tx fd 1 az) nu) ((eiL tx fd (sngR tx fd 4) 100 false false ((tnA tx fd (az + wlS tx fd 1 az)) + 1) []).1) (sz + co.length) ng21 fa (putL st sz (co.map ccd)) fd hf hfd tx htx (by omega)) dX4_parseClause_118 rfl (ltn rfl) rfl rfl (Nat.le_of_ble_eq_true rfl) (by decide) ?_
              refine v_iconst (v := 1) dX4_parseClause_121 (by decide) ?_
              exact v_zret hr dX4_parseClause_122 (by first | rfl | exact nbq) (by (rw [clR_sp hcd hw2 h32, hhl, show (eitR tx fd (tnA tx fd (az + wlS tx fd 1 az) + 1)).2 = some co from hc, hhw]; exact pcr_add (by decide) ((hcn).trans (ifc_t rfl).symm)))
            · -- not ((eiL tx fd (sngR tx fd 4) 100 false false ((tnA tx fd (az + wlS tx fd 1 az)) + 1) []).2.isSome = true)
              refine v_iconst (v := 0) dX4_parseClause_113 (by decide) ?_
              exact v_zret hr dX4_parseClause_114 (by first | rfl | exact nbq) (by (rw [clR_sp hcd hw2 h32, hhl, map_no (z := eitR tx fd (tnA tx fd (az + wlS tx fd 1 az) + 1)) h24]; exact pcr_none))
        · -- not (digP (nxt tx fd (az + wlS tx fd 1 az)))
          refine v_iconst (v := 0) dX4_parseClause_77 (by decide) ?_
          exact v_zret hr dX4_parseClause_78 (by first | rfl | exact nbq) (by (rw [clR_hd (fun q => h17 (by have q2 := q.2; rw [hhl] at q2; exact q2)), hhl, tnA_no h17]; exact pcr_none))
  · obtain ⟨hhl, hhw⟩ := hd_f hlt h2
    refine v_aload_n dX4_parseClause_9 rfl 0 rfl ?_
    refine v_ldcs (i := 0) lz_X4_52 dX4_parseClause_10 ?_
    refine v_callVi (As := [.ref (g.2.2.2.2.1 0)]) (rest := []) lk_X4_54 (c_X4_takeWord az sz nu fa st fd hf hfd tx htx 0 (by decide) (by omega)) dX4_parseClause_12 rfl (ltn rfl) rfl rfl (Nat.le_of_ble_eq_true rfl) (by decide) ?_
    refine v_ifb_eq (tgt := 25) dX4_parseClause_15 (by decide) (fun h25 => ?_) (fun h25 => ?_)
    · -- not (wlS tx fd 0 az = strLen.getD 0 0)
      refine v_iconst (v := 0) dX4_parseClause_25 (by decide) ?_
      exact v_zret hr dX4_parseClause_26 (by first | rfl | exact nbq) (by (rw [clR_hd (fun q => h25 (hhl.symm.trans q.1)), hhl]; exact pcr_none))
    · -- (wlS tx fd 0 az = strLen.getD 0 0)
      refine v_aload_n dX4_parseClause_18 rfl 0 rfl ?_
      refine v_callVi (As := []) (rest := []) lk_X4_58 (c_X4_parseNumber (az + wlS tx fd 0 az) sz nu fa st fd hf hfd tx htx (by omega)) dX4_parseClause_19 rfl (ltn rfl) rfl rfl (Nat.le_of_ble_eq_true rfl) (by decide) ?_
      refine v_ifb_ne (tgt := 27) dX4_parseClause_22 (by decide) (fun h26 => ?_) (fun h26 => ?_)
      · -- (digP (nxt tx fd (az + wlS tx fd 0 az)))
        have hcd : hdL tx lt fd az = 4 + 1 ∧ digP (nxt tx fd (az + hdL tx lt fd az)) := by rw [hhl]; exact ⟨h25, h26⟩
        have hcn := tnD_cl (dz := nu) h26
        have hta := tnA_le h26
        refine v_aload_n dX4_parseClause_27 rfl 0 rfl ?_
        refine v_aload_n dX4_parseClause_28 rfl 0 rfl ?_
        refine v_get (v := .int ((rI I (nI (tnA tx fd (az + wlS tx fd 0 az))) (nI sz) (tnD tx fd (az + wlS tx fd 0 az) nu) fa st) 15 5)) fa_X4_61 dX4_parseClause_29 rfl (by decide) (ltn rfl) rfl ?_
        refine v_is (y := (tnD tx fd (az + wlS tx fd 0 az) nu)) (by rfl) ?_
        refine v_puti pa_X4_26 dX4_parseClause_32 rfl (by decide) (ltn rfl) (by show 6 < 7; decide) rfl ?_
        refine v_I (I2 := (rI I (nI (tnA tx fd (az + wlS tx fd 0 az))) (nI sz) (tnD tx fd (az + wlS tx fd 0 az) nu) (tnD tx fd (az + wlS tx fd 0 az) nu) st)) (by first | rfl | (simp only [rI_a, rI_sc, rI_nu, rI_fa, rI_st]; done)) ?_
        refine v_iconst (v := 1) dX4_parseClause_35 (by decide) ?_
        exact v_zret hr dX4_parseClause_36 (by first | rfl | exact nbq) (by (rw [clR_fd hcd hhw, hhl, hcn]; exact pcr_fade))
      · -- not (digP (nxt tx fd (az + wlS tx fd 0 az)))
        refine v_iconst (v := 0) dX4_parseClause_25 (by decide) ?_
        exact v_zret hr dX4_parseClause_26 (by first | rfl | exact nbq) (by (rw [clR_hd (fun q => h26 (by have q2 := q.2; rw [hhl] at q2; exact q2)), hhl, tnA_no h26]; exact pcr_none))
