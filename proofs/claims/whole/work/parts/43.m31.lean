theorem whl_sum (ws : Nat → Int32) : ∀ w sg op sn, (whl ws w sg op sn).2.1 + (whl ws w sg op sn).1 = sg + w ∧ (whl ws w sg op sn).1 ≤ w
  | 0, _, _, _ => ⟨rfl, Nat.le_refl _⟩
  | w + 1, sg, op, sn => by
    by_cases h : ws w = 33
    · rw [whl, ifc_t h]
      have ih := whl_sum ws w (sg + 1) (op - 1) (va_up sn sg (-33))
      omega
    · rw [whl, ifc_f h]; exact ⟨rfl, Nat.le_refl _⟩
theorem stl_sum (ws : Nat → Int32) (s : Int32) : ∀ w sg sn, (stl ws s w sg sn).2.1 + (stl ws s w sg sn).1 = sg + w ∧ (stl ws s w sg sn).1 ≤ w
  | 0, _, _ => ⟨rfl, Nat.le_refl _⟩
  | w + 1, sg, sn => by
    by_cases h : ws w = 38 ∨ ws w = 124 ∧ ¬ s = 38
    · rw [stl, ifc_t h]
      have ih := stl_sum ws s w (sg + 1) (va_up sn sg (-(ws w)))
      omega
    · rw [stl, ifc_f h]; exact ⟨rfl, Nat.le_refl _⟩
theorem nxt_lt {tx : Nat → Int32} {fd a : Nat} (h : ¬ nxt tx fd a = -1) : a < fd := by
  by_cases q : a < fd
  · exact q
  · exact absurd (by unfold nxt; rw [ifc_f q]) h
theorem nxt_eq {tx : Nat → Int32} {fd a : Nat} {c : Int32} (h : nxt tx fd a = c) (hc : ¬ c = -1) : a < fd := nxt_lt (fun q => hc (h.symm.trans q))
theorem dig_lt {tx : Nat → Int32} {fd a : Nat} (h : digP (nxt tx fd a)) : a < fd := nxt_lt (fun q => by rw [q] at h; exact absurd h.1 (by decide))
theorem tnA_le {tx : Nat → Int32} {fd a : Nat} (h : digP (nxt tx fd a)) : a + 1 ≤ tnA tx fd a ∧ tnA tx fd a ≤ fd := by
  have h1 := dig_lt h
  unfold tnA; rw [ifc_t h]
  by_cases h2 : digP (nxt tx fd (a + 1))
  · have h3 := dig_lt h2; rw [ifc_t h2]; omega
  · rw [ifc_f h2]; omega
theorem tst_le {tx : Nat → Int32} {fd a : Nat} (h : tstOK tx fd a) : a + 3 ≤ tstA tx fd a ∧ tstA tx fd a ≤ fd := by
  have h1 := tnA_le h.2
  unfold tstA; rw [ifc_f h.1.1, ifc_t h.1.2]; omega
theorem tstW_sum {tx : Nat → Int32} {fd a : Nat} {dz : Int32} {sz wz : Nat} {oz : Int32} {sn ws : Nat → Int32} (h : tstOK tx fd a) : (tstW tx fd a dz sz wz oz sn ws).2.1 + (tstW tx fd a dz sz wz oz sn ws).1 = sz + 1 + wz ∧ (tstW tx fd a dz sz wz oz sn ws).1 ≤ wz := by
  unfold tstW; rw [ifc_t h]; exact whl_sum ws wz (sz + 1) oz _
abbrev RS := Bool × Nat × Int32 × Nat × Nat × Int32 × (Nat → Int32) × (Nat → Int32) × Int32
/-- the reading of a condition, round by round -/
noncomputable def run (tx : Nat → Int32) (fd : Nat) : Nat → Bool → Nat → Int32 → Nat → Nat → Int32 → (Nat → Int32) → (Nat → Int32) → Int32 → Option RS
  | 0, _, _, _, _, _, _, _, _, _ => none
  | k + 1, true, a, dg, sg, wt, op, sn, ws, tv =>
    ifc (nxt tx fd a = 33 ∨ nxt tx fd a = 40)
      (ifc (op = 4) (some (false, a, dg, sg, wt, op, sn, ws, tv)) (run tx fd k true (a + 1) dg sg (wt + 1) (op + 1) sn (va_up ws wt (nxt tx fd a)) tv))
      (ifc (tstOK tx fd a) (run tx fd k false (tstA tx fd a) (tstD tx fd a dg) (tstW tx fd a dg sg wt op sn ws).2.1 (tstW tx fd a dg sg wt op sn ws).1 (tstW tx fd a dg sg wt op sn ws).2.2.1 (tstW tx fd a dg sg wt op sn ws).2.2.2 ws tv)
        (some (false, tstA tx fd a, tstD tx fd a dg, sg, wt, op, sn, ws, tv)))
  | k + 1, false, a, dg, sg, wt, op, sn, ws, tv =>
    ifc (nxt tx fd a = 38 ∨ nxt tx fd a = 124)
      (run tx fd k true (a + 1) dg (stl ws (nxt tx fd a) wt sg sn).2.1 ((stl ws (nxt tx fd a) wt sg sn).1 + 1) op (stl ws (nxt tx fd a) wt sg sn).2.2 (va_up ws (stl ws (nxt tx fd a) wt sg sn).1 (nxt tx fd a)) tv)
      (ifc ((stl ws 124 wt sg sn).1 = 0) (some (true, a, dg, (stl ws 124 wt sg sn).2.1, 0, op, (stl ws 124 wt sg sn).2.2, ws, nI (stl ws 124 wt sg sn).2.1))
        (ifc (nxt tx fd a = 41) (run tx fd k false (a + 1) dg (whl ws ((stl ws 124 wt sg sn).1 - 1) (stl ws 124 wt sg sn).2.1 (op - 1) (stl ws 124 wt sg sn).2.2).2.1 (whl ws ((stl ws 124 wt sg sn).1 - 1) (stl ws 124 wt sg sn).2.1 (op - 1) (stl ws 124 wt sg sn).2.2).1 (whl ws ((stl ws 124 wt sg sn).1 - 1) (stl ws 124 wt sg sn).2.1 (op - 1) (stl ws 124 wt sg sn).2.2).2.2.1 (whl ws ((stl ws 124 wt sg sn).1 - 1) (stl ws 124 wt sg sn).2.1 (op - 1) (stl ws 124 wt sg sn).2.2).2.2.2 ws (nI (stl ws 124 wt sg sn).2.1))
          (some (false, a, dg, (stl ws 124 wt sg sn).2.1, (stl ws 124 wt sg sn).1, op, (stl ws 124 wt sg sn).2.2, ws, nI (stl ws 124 wt sg sn).2.1))))
theorem up_up2 {α : Type} (f : Nat → α) (k : Nat) (x y : α) : va_up (va_up f k x) k y = va_up f k y := by
  funext j; by_cases e : j = k
  · subst e; rw [up_at, up_at]
  · rw [up_off _ _ e, up_off _ _ e, up_off _ _ e]
theorem pI_out (I : Ty) (a dg sg wt op : Int32) (sn ws : Nat → Int32) {r : Nat} (k : Nat) (v : Int32) (h1 : r ≠ 65) (h2 : r ≠ 80) (h3 : r ≠ 81) : wr (pI I a dg sg wt op sn ws) r k v = pI (wr I r k v) a dg sg wt op sn ws := by
  funext x
  have e0 : pI I a dg sg wt op sn ws r = I r := by unfold pI; rw [if_neg h1, if_neg h2, if_neg h3]
  show va_up (pI I a dg sg wt op sn ws) r (va_up (pI I a dg sg wt op sn ws r) k v) x = _
  rw [e0]
  by_cases e : x = r
  · subst e; rw [up_at]; unfold pI; rw [if_neg h1, if_neg h2, if_neg h3]; show va_up (I x) k v = va_up I x (va_up (I x) k v) x; rw [up_at]
  · rw [up_off _ _ e]; unfold pI
    show (if x = 65 then _ else _) = (if x = 65 then (fun j => _) else _)
    by_cases q : x = 65
    · subst q; rw [if_pos rfl, if_pos rfl]; have e65 : wr I r k v 65 = I 65 := up_off _ _ (Ne.symm h1)
      funext j; rw [e65]
    · have ex : wr I r k v x = I x := up_off _ _ e
      rw [if_neg q, if_neg q, ex]
theorem wr_wr2 (I : Ty) (r k : Nat) (v w : Int32) : wr (wr I r k v) r k w = wr I r k w := by
  show va_up (va_up I r _) r (va_up (va_up I r _ r) k w) = _
  rw [up_up2, up_at, up_up2]
theorem wr_s79 (I : Ty) (k k2 : Nat) (v : Int32) : wr I 78 k v = wr (wr I 78 k v) 79 k2 (I 79 k2) := by
  funext x
  show va_up I 78 _ x = va_up (va_up I 78 _) 79 (va_up (va_up I 78 _ 79) k2 (I 79 k2)) x
  by_cases e : x = 79
  · subst e; rw [up_off _ _ (by decide : (79 : Nat) ≠ 78), up_at, up_self]
  · rw [up_off (k := 79) _ _ e]
set_option maxRecDepth 100000 in
set_option maxHeartbeats 2000000 in
theorem c_X9_takesE {g : Gl} {I : Ty} {L : TL} {na nt ni m : Nat} {nl : Nat → Nat} (cz : Nat) (az : Nat) (dz : Int32) (sz wz : Nat) (oz : Int32) (sn ws : Nat → Int32) (fd : Nat) (hf : fd ≤ 100) (hfd : I 65 12 = nI fd) (tx : Nat → Int32) (htx : I 74 = tx) (hcz : cz < 60) (res : RS) (kk s0 : Nat) (hs0 : s0 ≤ 500) (hse : sz ≤ s0 + az) (hae : az ≤ fd) (hrun : run tx fd kk true az dz sz 0 0 sn ws (I 79 cz) = some res) : Ct g yX9_takesE cX9_takesE 4 (some .boolean) 5 0 0 [.ref (g.1 + 65), .int (nI cz)] (pI I (nI az) dz (nI sz) (nI wz) oz sn ws) L (RT na nt ni) (NT nl) (NB + m) (Ps (some (.int (bq (res.1 = true)))) (pI (wr (wr I 78 cz (nI sz)) 79 cz res.2.2.2.2.2.2.2.2) (nI res.2.1) res.2.2.1 (nI res.2.2.2.1) (nI res.2.2.2.2.1) res.2.2.2.2.2.1 res.2.2.2.2.2.2.1 res.2.2.2.2.2.2.2.1) L (RT na nt ni) (NT nl) (NB + m)) := by
  refine ct_of (by decide +kernel) (Nat.le_of_ble_eq_true rfl) (fun F hnm hr => ?_)
  clear hnm
  show V g F cX9_takesE RX9 4 5 0 [(0, .ref (g.1 + 65)), (1, .int (nI cz))] [] (pI I (nI az) dz (nI sz) (nI wz) oz sn ws) L (RT na nt ni) (NT nl) (NB + m) 0 0
  have key : ∀ k, (∀ (ak : Nat) (dk : Int32) (sk wk : Nat) (ok : Int32) (nk wsk : Nat → Int32) (tk : Int32), sk + wk ≤ s0 + ak → wk ≤ ak → ak ≤ fd → run tx fd k true ak dk sk wk ok nk wsk tk = some res → V g F cX9_takesE RX9 4 5 22 [(2, .int 1), (0, .ref (g.1 + 65)), (1, .int (nI cz))] [] (pI (wr (wr I 78 cz (nI sz)) 79 cz tk) (nI ak) dk (nI sk) (nI wk) ok nk wsk) L (RT na nt ni) (NT nl) (NB + m) 0 0) ∧ (∀ (ak : Nat) (dk : Int32) (sk wk : Nat) (ok : Int32) (nk wsk : Nat → Int32) (tk : Int32), sk + wk ≤ s0 + ak → wk ≤ ak → ak ≤ fd → run tx fd k false ak dk sk wk ok nk wsk tk = some res → V g F cX9_takesE RX9 4 5 22 [(2, .int 0), (0, .ref (g.1 + 65)), (1, .int (nI cz))] [] (pI (wr (wr I 78 cz (nI sz)) 79 cz tk) (nI ak) dk (nI sk) (nI wk) ok nk wsk) L (RT na nt ni) (NT nl) (NB + m) 0 0) := by
    intro k
    induction k with
    | zero => exact ⟨fun _ _ _ _ _ _ _ _ _ _ _ h => absurd (show (none : Option RS) = some res from h) (by intro q; cases q), fun _ _ _ _ _ _ _ _ _ _ _ h => absurd (show (none : Option RS) = some res from h) (by intro q; cases q)⟩
    | succ k ih =>
      refine ⟨?_, ?_⟩
      · intro ak dk sk wk ok nk wsk tk hb1 hb2 hb3 hrun
        refine v_aload_n dX9_takesE_22 rfl 1 rfl ?_
        refine v_callVi (As := []) (rest := []) lk_X9_249 (c_X9_next (I := (wr (wr I 78 cz (nI sz)) 79 cz tk)) ak dk sk wk ok nk wsk fd hf hfd tx htx (by omega)) dX9_takesE_23 rfl (ltn rfl) rfl rfl (Nat.le_of_ble_eq_true rfl) (by decide) ?_
        refine v_istore_n (lv2 := [(3, .int (nxt tx fd ak)), (2, .int 1), (0, .ref (g.1 + 65)), (1, .int (nI cz))]) dX9_takesE_26 rfl (by decide) rfl ?_
        refine v_iload_n dX9_takesE_27 rfl 1 rfl ?_
        refine v_if_eq (tgt := 110) dX9_takesE_28 (by decide) (fun h1 => by first | exact absurd h1 (by decide) | exact absurd (by decide) h1) (fun _ => ?_)
        refine v_iload_n dX9_takesE_31 rfl 0 rfl ?_
        refine v_bipush (v := 33) dX9_takesE_32 (by decide) ?_
        refine v_icmp_eq (tgt := 43) dX9_takesE_34 (by decide) (fun h3 => ?_) (fun h3 => ?_)
        · have hlt := nxt_eq h3 (by decide)
          refine v_aload_n dX9_takesE_43 rfl 2 rfl ?_
          refine v_get (v := .int ((pI (wr (wr I 78 cz (nI sz)) 79 cz tk) (nI ak) dk (nI sk) (nI wk) ok nk wsk) 65 25)) fa_X9_86 dX9_takesE_44 rfl (by decide) (ltn rfl) rfl ?_
          refine v_is (y := ok) (by rfl) ?_
          refine v_iconst (v := 4) dX9_takesE_47 (by decide) ?_
          refine v_icmp_ne (tgt := 53) dX9_takesE_48 (by decide) (fun h5 => ?_) (fun h5 => ?_)
          · refine v_aload_n dX9_takesE_53 rfl 2 rfl ?_
            refine v_dup dX9_takesE_54 rfl ?_
            refine v_get (v := .int ((pI (wr (wr I 78 cz (nI sz)) 79 cz tk) (nI ak) dk (nI sk) (nI wk) ok nk wsk) 65 25)) fa_X9_86 dX9_takesE_55 rfl (by decide) (ltn rfl) rfl ?_
            refine v_is (y := ok) (by rfl) ?_
            refine v_iconst (v := 1) dX9_takesE_58 (by decide) ?_
            refine v_iadd dX9_takesE_59 ?_
            refine v_puti pa_X9_86 dX9_takesE_60 rfl (by decide) (ltn rfl) (by show 25 < 73; decide) rfl ?_
            refine v_aload_n dX9_takesE_63 rfl 2 rfl ?_
            refine v_get (v := .ref (g.1 + 81)) fa_X9_77 dX9_takesE_64 rfl (by decide) (ltn rfl) rfl ?_
            refine v_aload_n dX9_takesE_67 rfl 2 rfl ?_
            refine v_get (v := .int ((pI (wr (wr I 78 cz (nI sz)) 79 cz tk) (nI ak) dk (nI sk) (nI wk) ok nk wsk) 65 24)) fa_X9_83 dX9_takesE_68 rfl (by decide) (ltn rfl) rfl ?_
            refine v_is (y := nI wk) (by rfl) ?_
            refine v_iload_n dX9_takesE_71 rfl 0 rfl ?_
            refine v_iastore (len := 101) (j := wk) dX9_takesE_72 rfl (ltn rfl) rfl (by decide) rfl (by omega) ?_
            refine v_aload_n dX9_takesE_73 rfl 2 rfl ?_
            refine v_dup dX9_takesE_74 rfl ?_
            refine v_get (v := .int ((pI (wr (wr I 78 cz (nI sz)) 79 cz tk) (nI ak) dk (nI sk) (nI wk) ok nk wsk) 65 24)) fa_X9_83 dX9_takesE_75 rfl (by decide) (ltn rfl) rfl ?_
            refine v_is (y := nI wk) (by rfl) ?_
            refine v_iconst (v := 1) dX9_takesE_78 (by decide) ?_
            refine v_iadd dX9_takesE_79 ?_
            refine v_is (nx_add rfl rfl) ?_
            refine v_puti pa_X9_83 dX9_takesE_80 rfl (by decide) (ltn rfl) (by show 24 < 73; decide) rfl ?_
            refine v_aload_n dX9_takesE_83 rfl 2 rfl ?_
            refine v_dup dX9_takesE_84 rfl ?_
            refine v_get (v := .int ((pI (wr (wr I 78 cz (nI sz)) 79 cz tk) (nI ak) dk (nI sk) (nI wk) ok nk wsk) 65 13)) fa_X9_50 dX9_takesE_85 rfl (by decide) (ltn rfl) rfl ?_
            refine v_is (y := nI ak) (by rfl) ?_
            refine v_iconst (v := 1) dX9_takesE_88 (by decide) ?_
            refine v_iadd dX9_takesE_89 ?_
            refine v_is (nx_add rfl rfl) ?_
            refine v_puti pa_X9_50 dX9_takesE_90 rfl (by decide) (ltn rfl) (by show 13 < 73; decide) rfl ?_
            refine v_goto (tgt := 22) dX9_takesE_93 (by decide) ?_
            refine v_I (I2 := (pI (wr (wr I 78 cz (nI sz)) 79 cz tk) (nI (ak + 1)) dk (nI sk) (nI (wk + 1)) (ok + 1) nk (va_up wsk wk (nxt tx fd ak)))) (by first | rfl | (simp only [pI_at, pI_dg, pI_sg, pI_wt, pI_op, pI_sn, pI_ws]; done) | (rw [pI_at])) ?_
            refine v_sub (lv2 := [(2, .int 1), (0, .ref (g.1 + 65)), (1, .int (nI cz))]) [1, 2, 3] rfl ?_
            exact ih.1 _ _ _ _ _ _ _ _ (by omega) (by omega) (by omega) (by rw [run, ifc_t (Or.inl h3), ifc_f h5] at hrun; exact hrun)
          · refine v_iconst (v := 0) dX9_takesE_51 (by decide) ?_
            exact v_zret hr dX9_takesE_52 (by first | rfl | exact nbq) (by (rw [run, ifc_t (Or.inl h3), ifc_t h5] at hrun; have hre := Option.some.inj hrun; subst hre; exact ⟨congrArg (fun z => some (Value.int z)) (bq_f Bool.false_ne_true).symm, (by rfl), rfl, rfl, rfl, rfl⟩))
        · refine v_iload_n dX9_takesE_37 rfl 0 rfl ?_
          refine v_bipush (v := 40) dX9_takesE_38 (by decide) ?_
          refine v_icmp_ne (tgt := 96) dX9_takesE_40 (by decide) (fun h7 => ?_) (fun h7 => ?_)
          · refine v_aload_n dX9_takesE_96 rfl 2 rfl ?_
            refine v_callVi (As := []) (rest := []) lk_X9_274 (c_X9_takesTest (I := (wr (wr I 78 cz (nI sz)) 79 cz tk)) ak dk sk wk ok nk wsk fd hf hfd tx htx (by omega) (fun q => by have qq := tst_le q; omega) (by omega)) dX9_takesE_97 rfl (ltn rfl) rfl rfl (Nat.le_of_ble_eq_true rfl) (by decide) ?_
            refine v_ifb_eq (tgt := 108) dX9_takesE_100 (by decide) (fun h8 => ?_) (fun h8 => ?_)
            · -- not (tstOK tx fd ak)
              refine v_iconst (v := 0) dX9_takesE_108 (by decide) ?_
              exact v_zret hr dX9_takesE_109 (by first | rfl | exact nbq) (by (rw [run, ifc_f (fun q => q.elim h3 h7), ifc_f h8] at hrun; have hre := Option.some.inj hrun; subst hre; exact ⟨congrArg (fun z => some (Value.int z)) (bq_f Bool.false_ne_true).symm, (by unfold tstW; rw [ifc_f h8]), rfl, rfl, rfl, rfl⟩))
            · -- (tstOK tx fd ak)
              have hts := tst_le h8
              have hws := tstW_sum (dz := dk) (sz := sk) (wz := wk) (oz := ok) (sn := nk) (ws := wsk) h8
              refine v_iconst (v := 0) dX9_takesE_103 (by decide) ?_
              refine v_istore_n (lv2 := [(2, .int 0), (3, .int (nxt tx fd ak)), (0, .ref (g.1 + 65)), (1, .int (nI cz))]) dX9_takesE_104 rfl (by decide) rfl ?_
              refine v_goto (tgt := 22) dX9_takesE_105 (by decide) ?_
              refine v_sub (lv2 := [(2, .int 0), (0, .ref (g.1 + 65)), (1, .int (nI cz))]) [0, 2, 3] rfl ?_
              exact ih.2 _ _ _ _ _ _ _ _ (by omega) (by omega) (by omega) (by rw [run, ifc_f (fun q => q.elim h3 h7), ifc_t h8] at hrun; exact hrun)
          · have hlt := nxt_eq h7 (by decide)
            refine v_aload_n dX9_takesE_43 rfl 2 rfl ?_
            refine v_get (v := .int ((pI (wr (wr I 78 cz (nI sz)) 79 cz tk) (nI ak) dk (nI sk) (nI wk) ok nk wsk) 65 25)) fa_X9_86 dX9_takesE_44 rfl (by decide) (ltn rfl) rfl ?_
            refine v_is (y := ok) (by rfl) ?_
            refine v_iconst (v := 4) dX9_takesE_47 (by decide) ?_
            refine v_icmp_ne (tgt := 53) dX9_takesE_48 (by decide) (fun h10 => ?_) (fun h10 => ?_)
            · refine v_aload_n dX9_takesE_53 rfl 2 rfl ?_
              refine v_dup dX9_takesE_54 rfl ?_
              refine v_get (v := .int ((pI (wr (wr I 78 cz (nI sz)) 79 cz tk) (nI ak) dk (nI sk) (nI wk) ok nk wsk) 65 25)) fa_X9_86 dX9_takesE_55 rfl (by decide) (ltn rfl) rfl ?_
              refine v_is (y := ok) (by rfl) ?_
              refine v_iconst (v := 1) dX9_takesE_58 (by decide) ?_
              refine v_iadd dX9_takesE_59 ?_
              refine v_puti pa_X9_86 dX9_takesE_60 rfl (by decide) (ltn rfl) (by show 25 < 73; decide) rfl ?_
              refine v_aload_n dX9_takesE_63 rfl 2 rfl ?_
              refine v_get (v := .ref (g.1 + 81)) fa_X9_77 dX9_takesE_64 rfl (by decide) (ltn rfl) rfl ?_
              refine v_aload_n dX9_takesE_67 rfl 2 rfl ?_
              refine v_get (v := .int ((pI (wr (wr I 78 cz (nI sz)) 79 cz tk) (nI ak) dk (nI sk) (nI wk) ok nk wsk) 65 24)) fa_X9_83 dX9_takesE_68 rfl (by decide) (ltn rfl) rfl ?_
              refine v_is (y := nI wk) (by rfl) ?_
              refine v_iload_n dX9_takesE_71 rfl 0 rfl ?_
              refine v_iastore (len := 101) (j := wk) dX9_takesE_72 rfl (ltn rfl) rfl (by decide) rfl (by omega) ?_
              refine v_aload_n dX9_takesE_73 rfl 2 rfl ?_
              refine v_dup dX9_takesE_74 rfl ?_
              refine v_get (v := .int ((pI (wr (wr I 78 cz (nI sz)) 79 cz tk) (nI ak) dk (nI sk) (nI wk) ok nk wsk) 65 24)) fa_X9_83 dX9_takesE_75 rfl (by decide) (ltn rfl) rfl ?_
              refine v_is (y := nI wk) (by rfl) ?_
              refine v_iconst (v := 1) dX9_takesE_78 (by decide) ?_
              refine v_iadd dX9_takesE_79 ?_
              refine v_is (nx_add rfl rfl) ?_
              refine v_puti pa_X9_83 dX9_takesE_80 rfl (by decide) (ltn rfl) (by show 24 < 73; decide) rfl ?_
              refine v_aload_n dX9_takesE_83 rfl 2 rfl ?_
              refine v_dup dX9_takesE_84 rfl ?_
              refine v_get (v := .int ((pI (wr (wr I 78 cz (nI sz)) 79 cz tk) (nI ak) dk (nI sk) (nI wk) ok nk wsk) 65 13)) fa_X9_50 dX9_takesE_85 rfl (by decide) (ltn rfl) rfl ?_
              refine v_is (y := nI ak) (by rfl) ?_
              refine v_iconst (v := 1) dX9_takesE_88 (by decide) ?_
              refine v_iadd dX9_takesE_89 ?_
              refine v_is (nx_add rfl rfl) ?_
              refine v_puti pa_X9_50 dX9_takesE_90 rfl (by decide) (ltn rfl) (by show 13 < 73; decide) rfl ?_
              refine v_goto (tgt := 22) dX9_takesE_93 (by decide) ?_
              refine v_I (I2 := (pI (wr (wr I 78 cz (nI sz)) 79 cz tk) (nI (ak + 1)) dk (nI sk) (nI (wk + 1)) (ok + 1) nk (va_up wsk wk (nxt tx fd ak)))) (by first | rfl | (simp only [pI_at, pI_dg, pI_sg, pI_wt, pI_op, pI_sn, pI_ws]; done) | (rw [pI_at])) ?_
              refine v_sub (lv2 := [(2, .int 1), (0, .ref (g.1 + 65)), (1, .int (nI cz))]) [1, 2, 3] rfl ?_
              exact ih.1 _ _ _ _ _ _ _ _ (by omega) (by omega) (by omega) (by rw [run, ifc_t (Or.inr h7), ifc_f h10] at hrun; exact hrun)
            · refine v_iconst (v := 0) dX9_takesE_51 (by decide) ?_
              exact v_zret hr dX9_takesE_52 (by first | rfl | exact nbq) (by (rw [run, ifc_t (Or.inr h7), ifc_t h10] at hrun; have hre := Option.some.inj hrun; subst hre; exact ⟨congrArg (fun z => some (Value.int z)) (bq_f Bool.false_ne_true).symm, (by rfl), rfl, rfl, rfl, rfl⟩))
      · intro ak dk sk wk ok nk wsk tk hb1 hb2 hb3 hrun
        refine v_aload_n dX9_takesE_22 rfl 1 rfl ?_
        refine v_callVi (As := []) (rest := []) lk_X9_249 (c_X9_next (I := (wr (wr I 78 cz (nI sz)) 79 cz tk)) ak dk sk wk ok nk wsk fd hf hfd tx htx (by omega)) dX9_takesE_23 rfl (ltn rfl) rfl rfl (Nat.le_of_ble_eq_true rfl) (by decide) ?_
        refine v_istore_n (lv2 := [(3, .int (nxt tx fd ak)), (2, .int 0), (0, .ref (g.1 + 65)), (1, .int (nI cz))]) dX9_takesE_26 rfl (by decide) rfl ?_
        refine v_iload_n dX9_takesE_27 rfl 1 rfl ?_
        refine v_if_eq (tgt := 110) dX9_takesE_28 (by decide) (fun _ => ?_) (fun h11 => by first | exact absurd h11 (by decide) | exact absurd (by decide) h11)
        refine v_iload_n dX9_takesE_110 rfl 0 rfl ?_
        refine v_bipush (v := 38) dX9_takesE_111 (by decide) ?_
        refine v_icmp_eq (tgt := 122) dX9_takesE_113 (by decide) (fun h13 => ?_) (fun h13 => ?_)
        · have hlt := nxt_eq h13 (by decide)
          refine v_aload_n dX9_takesE_122 rfl 2 rfl ?_
          refine v_iload_n dX9_takesE_123 rfl 0 rfl ?_
          refine v_callVv (As := [.int (nxt tx fd ak)]) (rest := []) lk_X9_277 (c_X9_settle (I := (wr (wr I 78 cz (nI sz)) 79 cz tk)) (nxt tx fd ak) ak dk sk wk ok nk wsk fd hf hfd tx htx (by omega) (by omega)) dX9_takesE_124 rfl (ltn rfl) rfl rfl (Nat.le_of_ble_eq_true rfl) (by decide) ?_
          have hst := stl_sum wsk (nxt tx fd ak) wk sk nk
          refine v_aload_n dX9_takesE_127 rfl 2 rfl ?_
          refine v_get (v := .ref (g.1 + 81)) fa_X9_77 dX9_takesE_128 rfl (by decide) (ltn rfl) rfl ?_
          refine v_aload_n dX9_takesE_131 rfl 2 rfl ?_
          refine v_get (v := .int ((pI (wr (wr I 78 cz (nI sz)) 79 cz tk) (nI ak) dk (nI (stl wsk (nxt tx fd ak) wk sk nk).2.1) (nI (stl wsk (nxt tx fd ak) wk sk nk).1) ok (stl wsk (nxt tx fd ak) wk sk nk).2.2 wsk) 65 24)) fa_X9_83 dX9_takesE_132 rfl (by decide) (ltn rfl) rfl ?_
          refine v_is (y := nI (stl wsk (nxt tx fd ak) wk sk nk).1) (by rfl) ?_
          refine v_iload_n dX9_takesE_135 rfl 0 rfl ?_
          refine v_iastore (len := 101) (j := (stl wsk (nxt tx fd ak) wk sk nk).1) dX9_takesE_136 rfl (ltn rfl) rfl (by decide) rfl (by omega) ?_
          refine v_aload_n dX9_takesE_137 rfl 2 rfl ?_
          refine v_dup dX9_takesE_138 rfl ?_
          refine v_get (v := .int ((pI (wr (wr I 78 cz (nI sz)) 79 cz tk) (nI ak) dk (nI (stl wsk (nxt tx fd ak) wk sk nk).2.1) (nI (stl wsk (nxt tx fd ak) wk sk nk).1) ok (stl wsk (nxt tx fd ak) wk sk nk).2.2 wsk) 65 24)) fa_X9_83 dX9_takesE_139 rfl (by decide) (ltn rfl) rfl ?_
          refine v_is (y := nI (stl wsk (nxt tx fd ak) wk sk nk).1) (by rfl) ?_
          refine v_iconst (v := 1) dX9_takesE_142 (by decide) ?_
          refine v_iadd dX9_takesE_143 ?_
          refine v_is (nx_add rfl rfl) ?_
          refine v_puti pa_X9_83 dX9_takesE_144 rfl (by decide) (ltn rfl) (by show 24 < 73; decide) rfl ?_
          refine v_iconst (v := 1) dX9_takesE_147 (by decide) ?_
          refine v_istore_n (lv2 := [(2, .int 1), (3, .int (nxt tx fd ak)), (0, .ref (g.1 + 65)), (1, .int (nI cz))]) dX9_takesE_148 rfl (by decide) rfl ?_
          refine v_aload_n dX9_takesE_149 rfl 2 rfl ?_
          refine v_dup dX9_takesE_150 rfl ?_
          refine v_get (v := .int ((pI (wr (wr I 78 cz (nI sz)) 79 cz tk) (nI ak) dk (nI (stl wsk (nxt tx fd ak) wk sk nk).2.1) (nI (stl wsk (nxt tx fd ak) wk sk nk).1) ok (stl wsk (nxt tx fd ak) wk sk nk).2.2 wsk) 65 13)) fa_X9_50 dX9_takesE_151 rfl (by decide) (ltn rfl) rfl ?_
          refine v_is (y := nI ak) (by rfl) ?_
          refine v_iconst (v := 1) dX9_takesE_154 (by decide) ?_
          refine v_iadd dX9_takesE_155 ?_
          refine v_is (nx_add rfl rfl) ?_
          refine v_puti pa_X9_50 dX9_takesE_156 rfl (by decide) (ltn rfl) (by show 13 < 73; decide) rfl ?_
          refine v_goto (tgt := 22) dX9_takesE_159 (by decide) ?_
          refine v_I (I2 := (pI (wr (wr I 78 cz (nI sz)) 79 cz tk) (nI (ak + 1)) dk (nI (stl wsk (nxt tx fd ak) wk sk nk).2.1) (nI ((stl wsk (nxt tx fd ak) wk sk nk).1 + 1)) ok (stl wsk (nxt tx fd ak) wk sk nk).2.2 (va_up wsk (stl wsk (nxt tx fd ak) wk sk nk).1 (nxt tx fd ak)))) (by first | rfl | (simp only [pI_at, pI_dg, pI_sg, pI_wt, pI_op, pI_sn, pI_ws]; done) | (rw [pI_at])) ?_
          refine v_sub (lv2 := [(2, .int 1), (0, .ref (g.1 + 65)), (1, .int (nI cz))]) [0, 2, 3] rfl ?_
          exact ih.1 _ _ _ _ _ _ _ _ (by omega) (by omega) (by omega) (by rw [run, ifc_t (Or.inl h13)] at hrun; exact hrun)
        · refine v_iload_n dX9_takesE_116 rfl 0 rfl ?_
          refine v_bipush (v := 124) dX9_takesE_117 (by decide) ?_
          refine v_icmp_ne (tgt := 162) dX9_takesE_119 (by decide) (fun h15 => ?_) (fun h15 => ?_)
          · refine v_aload_n dX9_takesE_162 rfl 2 rfl ?_
            refine v_bipush (v := 124) dX9_takesE_163 (by decide) ?_
            refine v_callVv (As := [.int 124]) (rest := []) lk_X9_277 (c_X9_settle (I := (wr (wr I 78 cz (nI sz)) 79 cz tk)) 124 ak dk sk wk ok nk wsk fd hf hfd tx htx (by omega) (by omega)) dX9_takesE_165 rfl (ltn rfl) rfl rfl (Nat.le_of_ble_eq_true rfl) (by decide) ?_
            have hst := stl_sum wsk 124 wk sk nk
            refine v_aload_n dX9_takesE_168 rfl 2 rfl ?_
            refine v_get (v := .ref (g.1 + 79)) fa_X9_71 dX9_takesE_169 rfl (by decide) (ltn rfl) rfl ?_
            refine v_iload_n dX9_takesE_172 rfl 3 rfl ?_
            refine v_aload_n dX9_takesE_173 rfl 2 rfl ?_
            refine v_get (v := .int ((pI (wr (wr I 78 cz (nI sz)) 79 cz tk) (nI ak) dk (nI (stl wsk 124 wk sk nk).2.1) (nI (stl wsk 124 wk sk nk).1) ok (stl wsk 124 wk sk nk).2.2 wsk) 65 23)) fa_X9_80 dX9_takesE_174 rfl (by decide) (ltn rfl) rfl ?_
            refine v_is (y := nI (stl wsk 124 wk sk nk).2.1) (by rfl) ?_
            refine v_iastore (len := 60) (j := cz) dX9_takesE_177 rfl (ltn rfl) rfl (by decide) rfl (by omega) ?_
            refine v_I (I2 := (pI (wr (wr I 78 cz (nI sz)) 79 cz (nI (stl wsk 124 wk sk nk).2.1)) (nI ak) dk (nI (stl wsk 124 wk sk nk).2.1) (nI (stl wsk 124 wk sk nk).1) ok (stl wsk 124 wk sk nk).2.2 wsk)) (by show (wr (pI (wr (wr I 78 cz (nI sz)) 79 cz tk) (nI ak) dk (nI (stl wsk 124 wk sk nk).2.1) (nI (stl wsk 124 wk sk nk).1) ok (stl wsk 124 wk sk nk).2.2 wsk) 79 cz (nI (stl wsk 124 wk sk nk).2.1)) = _; rw [pI_out _ _ _ _ _ _ _ _ _ _ (by decide) (by decide) (by decide), wr_wr2]) ?_
            refine v_aload_n dX9_takesE_178 rfl 2 rfl ?_
            refine v_get (v := .int ((pI (wr (wr I 78 cz (nI sz)) 79 cz (nI (stl wsk 124 wk sk nk).2.1)) (nI ak) dk (nI (stl wsk 124 wk sk nk).2.1) (nI (stl wsk 124 wk sk nk).1) ok (stl wsk 124 wk sk nk).2.2 wsk) 65 24)) fa_X9_83 dX9_takesE_179 rfl (by decide) (ltn rfl) rfl ?_
            refine v_is (y := nI (stl wsk 124 wk sk nk).1) (by rfl) ?_
            refine v_if_neN (a := (stl wsk 124 wk sk nk).1) (tgt := 187) dX9_takesE_182 (by decide) rfl (by omega) (fun h16 => ?_) (fun h16 => ?_)
            · -- (stl wsk 124 wk sk nk).1 ne 0
              refine v_iload_n dX9_takesE_187 rfl 0 rfl ?_
              refine v_bipush (v := 41) dX9_takesE_188 (by decide) ?_
              refine v_icmp_eq (tgt := 195) dX9_takesE_190 (by decide) (fun h18 => ?_) (fun h18 => ?_)
              · have hlt := nxt_eq h18 (by decide)
                refine v_aload_n dX9_takesE_195 rfl 2 rfl ?_
                refine v_dup dX9_takesE_196 rfl ?_
                refine v_get (v := .int ((pI (wr (wr I 78 cz (nI sz)) 79 cz (nI (stl wsk 124 wk sk nk).2.1)) (nI ak) dk (nI (stl wsk 124 wk sk nk).2.1) (nI (stl wsk 124 wk sk nk).1) ok (stl wsk 124 wk sk nk).2.2 wsk) 65 24)) fa_X9_83 dX9_takesE_197 rfl (by decide) (ltn rfl) rfl ?_
                refine v_is (y := nI (stl wsk 124 wk sk nk).1) (by rfl) ?_
                refine v_iconst (v := 1) dX9_takesE_200 (by decide) ?_
                refine v_isub dX9_takesE_201 ?_
                refine v_is (nx_sub (a := (stl wsk 124 wk sk nk).1) (b := 1) rfl rfl (by omega)) ?_
                refine v_puti pa_X9_83 dX9_takesE_202 rfl (by decide) (ltn rfl) (by show 24 < 73; decide) rfl ?_
                refine v_aload_n dX9_takesE_205 rfl 2 rfl ?_
                refine v_dup dX9_takesE_206 rfl ?_
                refine v_get (v := .int ((pI (wr (wr I 78 cz (nI sz)) 79 cz (nI (stl wsk 124 wk sk nk).2.1)) (nI ak) dk (nI (stl wsk 124 wk sk nk).2.1) (nI (stl wsk 124 wk sk nk).1) ok (stl wsk 124 wk sk nk).2.2 wsk) 65 25)) fa_X9_86 dX9_takesE_207 rfl (by decide) (ltn rfl) rfl ?_
                refine v_is (y := ok) (by rfl) ?_
                refine v_iconst (v := 1) dX9_takesE_210 (by decide) ?_
                refine v_isub dX9_takesE_211 ?_
                refine v_puti pa_X9_86 dX9_takesE_212 rfl (by decide) (ltn rfl) (by show 25 < 73; decide) rfl ?_
                refine v_aload_n dX9_takesE_215 rfl 2 rfl ?_
                refine v_dup dX9_takesE_216 rfl ?_
                refine v_get (v := .int ((pI (wr (wr I 78 cz (nI sz)) 79 cz (nI (stl wsk 124 wk sk nk).2.1)) (nI ak) dk (nI (stl wsk 124 wk sk nk).2.1) (nI (stl wsk 124 wk sk nk).1) ok (stl wsk 124 wk sk nk).2.2 wsk) 65 13)) fa_X9_50 dX9_takesE_217 rfl (by decide) (ltn rfl) rfl ?_
                refine v_is (y := nI ak) (by rfl) ?_
                refine v_iconst (v := 1) dX9_takesE_220 (by decide) ?_
                refine v_iadd dX9_takesE_221 ?_
                refine v_is (nx_add rfl rfl) ?_
                refine v_puti pa_X9_50 dX9_takesE_222 rfl (by decide) (ltn rfl) (by show 13 < 73; decide) rfl ?_
                refine v_I (I2 := (pI (wr (wr I 78 cz (nI sz)) 79 cz (nI (stl wsk 124 wk sk nk).2.1)) (nI (ak + 1)) dk (nI (stl wsk 124 wk sk nk).2.1) (nI ((stl wsk 124 wk sk nk).1 - 1)) (ok - 1) (stl wsk 124 wk sk nk).2.2 wsk)) (by first | rfl | (simp only [pI_at, pI_dg, pI_sg, pI_wt, pI_op, pI_sn, pI_ws]; done) | (rw [pI_at])) ?_
                refine v_aload_n dX9_takesE_225 rfl 2 rfl ?_
                refine v_callVv (As := []) (rest := []) lk_X9_271 (c_X9_whole (I := (wr (wr I 78 cz (nI sz)) 79 cz (nI (stl wsk 124 wk sk nk).2.1))) (ak + 1) dk ((stl wsk 124 wk sk nk).2.1) ((stl wsk 124 wk sk nk).1 - 1) (ok - 1) ((stl wsk 124 wk sk nk).2.2) wsk fd hf hfd tx htx (by omega) (by omega)) dX9_takesE_226 rfl (ltn rfl) rfl rfl (Nat.le_of_ble_eq_true rfl) (by decide) ?_
                refine v_goto (tgt := 22) dX9_takesE_229 (by decide) ?_
                have hwl := whl_sum wsk ((stl wsk 124 wk sk nk).1 - 1) (stl wsk 124 wk sk nk).2.1 (ok - 1) (stl wsk 124 wk sk nk).2.2
                refine v_sub (lv2 := [(2, .int 0), (0, .ref (g.1 + 65)), (1, .int (nI cz))]) [1, 2, 3] rfl ?_
                exact ih.2 _ _ _ _ _ _ _ _ (by omega) (by omega) (by omega) (by rw [run, ifc_f (fun q => q.elim h13 h15), ifc_f h16, ifc_t h18] at hrun; exact hrun)
              · refine v_iconst (v := 0) dX9_takesE_193 (by decide) ?_
                exact v_zret hr dX9_takesE_194 (by first | rfl | exact nbq) (by (rw [run, ifc_f (fun q => q.elim h13 h15), ifc_f h16, ifc_f h18] at hrun; have hre := Option.some.inj hrun; subst hre; exact ⟨congrArg (fun z => some (Value.int z)) (bq_f Bool.false_ne_true).symm, (by rfl), rfl, rfl, rfl, rfl⟩))
            · -- (stl wsk 124 wk sk nk).1 eq 0
              refine v_iconst (v := 1) dX9_takesE_185 (by decide) ?_
              exact v_zret hr dX9_takesE_186 (by first | rfl | exact nbq) (by (rw [run, ifc_f (fun q => q.elim h13 h15), ifc_t h16] at hrun; have hre := Option.some.inj hrun; subst hre; exact ⟨congrArg (fun z => some (Value.int z)) (bq_t rfl).symm, (by rw [h16]), rfl, rfl, rfl, rfl⟩))
          · have hlt := nxt_eq h15 (by decide)
            refine v_aload_n dX9_takesE_122 rfl 2 rfl ?_
            refine v_iload_n dX9_takesE_123 rfl 0 rfl ?_
            refine v_callVv (As := [.int (nxt tx fd ak)]) (rest := []) lk_X9_277 (c_X9_settle (I := (wr (wr I 78 cz (nI sz)) 79 cz tk)) (nxt tx fd ak) ak dk sk wk ok nk wsk fd hf hfd tx htx (by omega) (by omega)) dX9_takesE_124 rfl (ltn rfl) rfl rfl (Nat.le_of_ble_eq_true rfl) (by decide) ?_
            have hst := stl_sum wsk (nxt tx fd ak) wk sk nk
            refine v_aload_n dX9_takesE_127 rfl 2 rfl ?_
            refine v_get (v := .ref (g.1 + 81)) fa_X9_77 dX9_takesE_128 rfl (by decide) (ltn rfl) rfl ?_
            refine v_aload_n dX9_takesE_131 rfl 2 rfl ?_
            refine v_get (v := .int ((pI (wr (wr I 78 cz (nI sz)) 79 cz tk) (nI ak) dk (nI (stl wsk (nxt tx fd ak) wk sk nk).2.1) (nI (stl wsk (nxt tx fd ak) wk sk nk).1) ok (stl wsk (nxt tx fd ak) wk sk nk).2.2 wsk) 65 24)) fa_X9_83 dX9_takesE_132 rfl (by decide) (ltn rfl) rfl ?_
            refine v_is (y := nI (stl wsk (nxt tx fd ak) wk sk nk).1) (by rfl) ?_
            refine v_iload_n dX9_takesE_135 rfl 0 rfl ?_
            refine v_iastore (len := 101) (j := (stl wsk (nxt tx fd ak) wk sk nk).1) dX9_takesE_136 rfl (ltn rfl) rfl (by decide) rfl (by omega) ?_
            refine v_aload_n dX9_takesE_137 rfl 2 rfl ?_
            refine v_dup dX9_takesE_138 rfl ?_
            refine v_get (v := .int ((pI (wr (wr I 78 cz (nI sz)) 79 cz tk) (nI ak) dk (nI (stl wsk (nxt tx fd ak) wk sk nk).2.1) (nI (stl wsk (nxt tx fd ak) wk sk nk).1) ok (stl wsk (nxt tx fd ak) wk sk nk).2.2 wsk) 65 24)) fa_X9_83 dX9_takesE_139 rfl (by decide) (ltn rfl) rfl ?_
            refine v_is (y := nI (stl wsk (nxt tx fd ak) wk sk nk).1) (by rfl) ?_
            refine v_iconst (v := 1) dX9_takesE_142 (by decide) ?_
            refine v_iadd dX9_takesE_143 ?_
            refine v_is (nx_add rfl rfl) ?_
            refine v_puti pa_X9_83 dX9_takesE_144 rfl (by decide) (ltn rfl) (by show 24 < 73; decide) rfl ?_
            refine v_iconst (v := 1) dX9_takesE_147 (by decide) ?_
            refine v_istore_n (lv2 := [(2, .int 1), (3, .int (nxt tx fd ak)), (0, .ref (g.1 + 65)), (1, .int (nI cz))]) dX9_takesE_148 rfl (by decide) rfl ?_
            refine v_aload_n dX9_takesE_149 rfl 2 rfl ?_
            refine v_dup dX9_takesE_150 rfl ?_
            refine v_get (v := .int ((pI (wr (wr I 78 cz (nI sz)) 79 cz tk) (nI ak) dk (nI (stl wsk (nxt tx fd ak) wk sk nk).2.1) (nI (stl wsk (nxt tx fd ak) wk sk nk).1) ok (stl wsk (nxt tx fd ak) wk sk nk).2.2 wsk) 65 13)) fa_X9_50 dX9_takesE_151 rfl (by decide) (ltn rfl) rfl ?_
            refine v_is (y := nI ak) (by rfl) ?_
            refine v_iconst (v := 1) dX9_takesE_154 (by decide) ?_
            refine v_iadd dX9_takesE_155 ?_
            refine v_is (nx_add rfl rfl) ?_
            refine v_puti pa_X9_50 dX9_takesE_156 rfl (by decide) (ltn rfl) (by show 13 < 73; decide) rfl ?_
            refine v_goto (tgt := 22) dX9_takesE_159 (by decide) ?_
            refine v_I (I2 := (pI (wr (wr I 78 cz (nI sz)) 79 cz tk) (nI (ak + 1)) dk (nI (stl wsk (nxt tx fd ak) wk sk nk).2.1) (nI ((stl wsk (nxt tx fd ak) wk sk nk).1 + 1)) ok (stl wsk (nxt tx fd ak) wk sk nk).2.2 (va_up wsk (stl wsk (nxt tx fd ak) wk sk nk).1 (nxt tx fd ak)))) (by first | rfl | (simp only [pI_at, pI_dg, pI_sg, pI_wt, pI_op, pI_sn, pI_ws]; done) | (rw [pI_at])) ?_
            refine v_sub (lv2 := [(2, .int 1), (0, .ref (g.1 + 65)), (1, .int (nI cz))]) [0, 2, 3] rfl ?_
            exact ih.1 _ _ _ _ _ _ _ _ (by omega) (by omega) (by omega) (by rw [run, ifc_t (Or.inr h15)] at hrun; exact hrun)
  refine v_aload_n dX9_takesE_0 rfl 0 rfl ?_
  refine v_iconst (v := 0) dX9_takesE_1 (by decide) ?_
  refine v_puti pa_X9_83 dX9_takesE_2 rfl (by decide) (ltn rfl) (by show 24 < 73; decide) rfl ?_
  refine v_aload_n dX9_takesE_5 rfl 0 rfl ?_
  refine v_iconst (v := 0) dX9_takesE_6 (by decide) ?_
  refine v_puti pa_X9_86 dX9_takesE_7 rfl (by decide) (ltn rfl) (by show 25 < 73; decide) rfl ?_
  refine v_aload_n dX9_takesE_10 rfl 0 rfl ?_
  refine v_get (v := .ref (g.1 + 78)) fa_X9_68 dX9_takesE_11 rfl (by decide) (ltn rfl) rfl ?_
  refine v_iload_n dX9_takesE_14 rfl 1 rfl ?_
  refine v_aload_n dX9_takesE_15 rfl 0 rfl ?_
  refine v_get (v := .int ((pI I (nI az) dz (nI sz) (nI wz) oz sn ws) 65 23)) fa_X9_80 dX9_takesE_16 rfl (by decide) (ltn rfl) rfl ?_
  refine v_is (y := nI sz) (by rfl) ?_
  refine v_iastore (len := 60) (j := cz) dX9_takesE_19 rfl (ltn rfl) rfl (by decide) rfl (by omega) ?_
  refine v_iconst (v := 1) dX9_takesE_20 (by decide) ?_
  refine v_istore_n (lv2 := [(2, .int 1), (0, .ref (g.1 + 65)), (1, .int (nI cz))]) dX9_takesE_21 rfl (by decide) rfl ?_
  refine v_I (I2 := (pI (wr (wr I 78 cz (nI sz)) 79 cz (I 79 cz)) (nI az) dz (nI sz) (nI 0) 0 sn ws)) (by show (wr (wr (wr (pI I (nI az) dz (nI sz) (nI wz) oz sn ws) 65 24 0) 65 25 0) 78 cz (nI sz)) = _; rw [pI_wt, pI_op, pI_out _ _ _ _ _ _ _ _ _ _ (by decide) (by decide) (by decide)]; exact congrArg (fun zz => pI zz (nI az) dz (nI sz) 0 0 sn ws) (wr_s79 I cz cz (nI sz))) ?_
  exact (key kk).1 _ _ _ _ _ _ _ _ (by omega) (by omega) hae hrun
