/-- what the parsing of a part leaves -/
def Pps (I : Ty) (L0 : TL) (R0 : TR) (N0 : TN) (n0 sz : Nat) (fa : Int32) (st : Nat → Int32) (z : PR) : Post := fun v I' L R N n => v = some (.int (bq (z.2.isSome = true))) ∧ (∃ (s2 : Nat) (n2 : Int32) (t2 : Nat → Int32), I' = rI I (nI z.1) (nI s2) n2 fa t2 ∧ ∀ o, z.2 = some o → s2 = sz + o.length ∧ t2 = putL st sz (o.map ccd)) ∧ L = L0 ∧ R = R0 ∧ N = N0 ∧ n = n0
def bb : Bool → Int32 := fun b => match b with | true => 1 | false => 0
section
variable {I : Ty} {L : TL} {R : TR} {N : TN} {n a sz s2 : Nat} {fa n2 : Int32} {st t2 : Nat → Int32} {tx : Nat → Int32} {fd : Nat}
theorem v_callPs {g : Gl} {F : Fx} {cc : ByteArray} {own : String} {nL d pc : Nat} {lv : List (Nat × Value)} {sk : List Value} {J : Ty} {kr sr index na mL dc k ci : Nat} {y : MethodName} {bytes : ByteArray} {ret : Option FieldType} {As rest : List Value} {z : PR} (hl : LkV own index y bytes mL ret na ci) (hM : Ct g y bytes mL ret dc 0 0 (.ref (g.1 + k) :: As) J L R N n (Pps I L R N n sz fa st z)) (hd : decode cc pc = .ok (.invokevirtual index, 3)) (hk : kd k = ci) (hn : k < n)
    (hna : As.length = na) (hst : sk = As.reverse ++ .ref (g.1 + k) :: rest) (hrest : rest.length ≤ 4) (hdc : dc + 1 ≤ d)
    (kk : ∀ (s2 : Nat) (n2 : Int32) (t2 : Nat → Int32), (∀ o, z.2 = some o → s2 = sz + o.length ∧ t2 = putL st sz (o.map ccd)) → V g F cc own nL d (pc + 3) lv (.int (bq (z.2.isSome = true)) :: rest) (rI I (nI z.1) (nI s2) n2 fa t2) L R N n kr sr) : V g F cc own nL d pc lv sk J L R N n kr sr :=
  v_callV hl hM hd hk hn hna hst hrest hdc (Nat.zero_le _) (Nat.zero_le _) (fun v' I' L' R' N' n' h => by obtain ⟨rfl, ⟨s2, n2, t2, rfl, h1⟩, rfl, rfl, rfl, rfl⟩ := h; exact kk s2 n2 t2 h1)
theorem pps_none : Pps I L R N n sz fa st (a, none) (some (.int 0)) (rI I (nI a) (nI s2) n2 fa t2) L R N n := ⟨congrArg (fun z => some (Value.int z)) (bq_f (by intro q; cases q)).symm, ⟨s2, n2, t2, rfl, fun o q => by cases q⟩, rfl, rfl, rfl, rfl⟩
theorem pps_some {o : List Tk} : Pps I L R N n sz fa st (a, some o) (some (.int 1)) (rI I (nI a) (nI (sz + o.length)) n2 fa (putL st sz (o.map ccd))) L R N n := ⟨congrArg (fun z => some (Value.int z)) (bq_t rfl).symm, ⟨_, n2, _, rfl, fun o2 q => by cases q; exact ⟨rfl, rfl⟩⟩, rfl, rfl, rfl, rfl⟩
theorem pps_tst {nu : Int32} : Pps I L R N n sz fa st (tsR tx fd a) (some (.int (bq (tstOK tx fd a)))) (rI I (nI (tstA tx fd a)) (nI (ts1 tx fd a sz)) (tstD tx fd a nu) fa (ts2 tx fd a sz st)) L R N n := by
  unfold tsR ts1 ts2
  by_cases h : tstOK tx fd a
  · rw [ifc_t h, ifc_t h, ifc_t h, bq_t h]
    exact pps_some (o := [tstT tx fd a])
  · rw [ifc_f h, ifc_f h, ifc_f h, bq_f h]
    exact pps_none
theorem sngT {r : Nat} (h1 : ¬ nxt tx fd a = 33) (h2 : ¬ nxt tx fd a = 40) : sngR tx fd r a = tsR tx fd a := by
  cases r with
  | zero => rw [sngR]; exact ifc_f (fun q => q.elim h1 h2)
  | succ r => rw [sngR]; exact (ifc_f h1).trans (ifc_f h2)
theorem sng0 (h : nxt tx fd a = 33 ∨ nxt tx fd a = 40) : sngR tx fd 0 a = (a, none) := by rw [sngR]; exact ifc_t h
theorem sng_not {r : Nat} (h : nxt tx fd a = 33) : sngR tx fd (r + 1) a = notR (sngR tx fd r (a + 1)) := by rw [sngR]; exact ifc_t h
theorem sng_par {r : Nat} (h : nxt tx fd a = 40) : sngR tx fd (r + 1) a = parR tx fd (eiL tx fd (sngR tx fd r) 100 false false (a + 1) []) := by
  rw [sngR, ifc_f (by rw [h]; decide), ifc_t h]
theorem notR_no {z : PR} (h : ¬ z.2.isSome = true) : notR z = (z.1, none) := by
  obtain ⟨q, o⟩ := z
  cases o with
  | none => rfl
  | some o => exact absurd rfl h
theorem notR_yes {z : PR} {o : List Tk} (h : z.2 = some o) : notR z = (z.1, some (o ++ [Tk_no])) := by
  obtain ⟨q, o2⟩ := z
  cases h; rfl
theorem parR_no {z : PR} (h : ¬ z.2.isSome = true) : parR tx fd z = (z.1, none) := by
  obtain ⟨q, o⟩ := z
  cases o with
  | none => rfl
  | some o => exact absurd rfl h
theorem parR_t {z : PR} {o : List Tk} (h : z.2 = some o) (h2 : nxt tx fd z.1 = 41) : parR tx fd z = (z.1 + 1, some o) := by
  obtain ⟨q, o2⟩ := z
  cases h; exact ifc_t h2
theorem parR_f {z : PR} {o : List Tk} (h : z.2 = some o) (h2 : ¬ nxt tx fd z.1 = 41) : parR tx fd z = (z.1, none) := by
  obtain ⟨q, o2⟩ := z
  cases h; exact ifc_f h2
section
variable {sg : Nat → PR} {k : Nat} {ei bo : Bool} {out o : List Tk}
theorem eiL_no (h : ¬ (sg a).2.isSome = true) : eiL tx fd sg (k + 1) ei bo a out = ((sg a).1, none) := by
  rw [eiL]
  generalize sg a = z at h
  obtain ⟨q, o2⟩ := z
  cases o2 with
  | none => rfl
  | some o => exact absurd rfl h
theorem eiL_an (h : (sg a).2 = some o) (h2 : nxt tx fd (sg a).1 = 38) : eiL tx fd sg (k + 1) ei bo a out = eiL tx fd sg k ei true ((sg a).1 + 1) (out ++ o ++ anL bo) := by
  rw [eiL]
  generalize sg a = z at h h2
  obtain ⟨q, o2⟩ := z
  cases h; exact ifc_t h2
theorem eiL_eo (h : (sg a).2 = some o) (h1 : ¬ nxt tx fd (sg a).1 = 38) (h2 : nxt tx fd (sg a).1 = 124) : eiL tx fd sg (k + 1) ei bo a out = eiL tx fd sg k true false ((sg a).1 + 1) (out ++ o ++ anL bo ++ eoL ei) := by
  rw [eiL]
  generalize sg a = z at h h1 h2
  obtain ⟨q, o2⟩ := z
  cases h; exact (ifc_f h1).trans (ifc_t h2)
theorem eiL_end (h : (sg a).2 = some o) (h1 : ¬ nxt tx fd (sg a).1 = 38) (h2 : ¬ nxt tx fd (sg a).1 = 124) : eiL tx fd sg (k + 1) ei bo a out = ((sg a).1, some (out ++ o ++ anL bo ++ eoL ei)) := by
  rw [eiL]
  generalize sg a = z at h h1 h2
  obtain ⟨q, o2⟩ := z
  cases h; exact (ifc_f h1).trans (ifc_f h2)
theorem ptc_app (l l2 : List Tk) : putL (putL st sz (l.map ccd)) (sz + l.length) (l2.map ccd) = putL st sz ((l ++ l2).map ccd) := by
  have h := putL_app (l.map ccd) (l2.map ccd) st sz
  rw [List.length_map] at h
  rw [h, List.map_append]
theorem ptc_one (l : List Tk) (t : Tk) {v : Int32} (hv : v = ccd t) : va_up (putL st sz (l.map ccd)) (sz + l.length) v = putL st sz ((l ++ [t]).map ccd) := by
  rw [hv]; exact ptc_app l [t]
theorem ccd_no : ((0 : Int32) <<< (4 &&& 31)) ||| 0 = ccd Tk_no := by unfold ccd; rw [ifc_f (by decide), ifc_t (by decide)]
theorem ccd_an : ((0 : Int32) <<< (4 &&& 31)) ||| 1 = ccd Tk_an := by unfold ccd; rw [ifc_f (by decide), ifc_f (by decide), ifc_t (by decide)]
theorem ccd_eo : ((0 : Int32) <<< (4 &&& 31)) ||| 2 = ccd Tk_eo := by unfold ccd; rw [ifc_f (by decide), ifc_f (by decide), ifc_f (by decide)]
theorem sz_app (l l2 : List Tk) : sz + l.length + l2.length = sz + (l ++ l2).length := by rw [List.length_append, Nat.add_assoc]
theorem sz_one (l : List Tk) (t : Tk) : sz + l.length + 1 = sz + (l ++ [t]).length := by rw [List.length_append, Nat.add_assoc]; rfl
end
end
set_option maxRecDepth 100000 in
set_option maxHeartbeats 1000000 in
theorem c_sng_0 {g : Gl} {I : Ty} {L : TL} {na nt ni m : Nat} {nl : Nat → Nat}  (az sz : Nat) (nu fa : Int32) (st : Nat → Int32) (fd : Nat) (hf : fd ≤ 100) (hfd : I 15 0 = nI fd) (tx : Nat → Int32) (htx : I 16 = tx) (ha : az ≤ fd) (hs : sz ≤ az) : Ct g yX4_parseSingle cX4_parseSingle 3 (some .boolean) 6 0 0 [.ref (g.1 + 15), .int 4] (rI I (nI az) (nI sz) nu fa st) L (RT na nt ni) (NT nl) (NB + m) (Pps I L (RT na nt ni) (NT nl) (NB + m) sz fa st (sngR tx fd 0 az)) := by
  refine ct_of (by decide +kernel) (Nat.le_of_ble_eq_true rfl) (fun F hnm hr => ?_)
  clear hnm
  show V g F cX4_parseSingle RX4 3 6 0 [(0, .ref (g.1 + 15)), (1, .int 4)] [] (rI I (nI az) (nI sz) nu fa st) L (RT na nt ni) (NT nl) (NB + m) 0 0
  refine v_aload_n dX4_parseSingle_0 rfl 0 rfl ?_
  refine v_callVi (As := []) (rest := []) lk_X4_48 (c_X4_sign az sz nu fa st fd hf hfd tx htx (by omega)) dX4_parseSingle_1 rfl (ltn rfl) rfl rfl (Nat.le_of_ble_eq_true rfl) (by decide) ?_
  refine v_istore_n (lv2 := [(2, .int (nxt tx fd az)), (0, .ref (g.1 + 15)), (1, .int 4)]) dX4_parseSingle_4 rfl (by decide) rfl ?_
  refine v_iload_n dX4_parseSingle_5 rfl 0 rfl ?_
  refine v_bipush (v := 33) dX4_parseSingle_6 (by decide) ?_
  refine v_icmp_eq (tgt := 22) dX4_parseSingle_8 (by decide) (fun h2 => ?_) (fun h2 => ?_)
  · refine v_iload_n dX4_parseSingle_22 rfl 2 rfl ?_
    refine v_iconst (v := 4) dX4_parseSingle_23 (by decide) ?_
    refine v_icmp_lt (tgt := 29) dX4_parseSingle_24 (by decide) (fun h3 => by first | exact absurd h3 (by decide) | exact absurd (by decide) h3) (fun _ => ?_)
    refine v_iconst (v := 0) dX4_parseSingle_27 (by decide) ?_
    exact v_zret hr dX4_parseSingle_28 (by first | rfl | exact nbq) (by (rw [sng0 (Or.inl h2)]; exact pps_none))
  · refine v_iload_n dX4_parseSingle_11 rfl 0 rfl ?_
    refine v_bipush (v := 40) dX4_parseSingle_12 (by decide) ?_
    refine v_icmp_eq (tgt := 22) dX4_parseSingle_14 (by decide) (fun h5 => ?_) (fun h5 => ?_)
    · refine v_iload_n dX4_parseSingle_22 rfl 2 rfl ?_
      refine v_iconst (v := 4) dX4_parseSingle_23 (by decide) ?_
      refine v_icmp_lt (tgt := 29) dX4_parseSingle_24 (by decide) (fun h6 => by first | exact absurd h6 (by decide) | exact absurd (by decide) h6) (fun _ => ?_)
      refine v_iconst (v := 0) dX4_parseSingle_27 (by decide) ?_
      exact v_zret hr dX4_parseSingle_28 (by first | rfl | exact nbq) (by (rw [sng0 (Or.inr h5)]; exact pps_none))
    · refine v_aload_n dX4_parseSingle_17 rfl 1 rfl ?_
      refine v_callVi (As := []) (rest := []) lk_X4_79 (c_X4_parseTest az sz nu fa st fd hf hfd tx htx (by omega) (by omega)) dX4_parseSingle_18 rfl (ltn rfl) rfl rfl (Nat.le_of_ble_eq_true rfl) (by decide) ?_
      exact v_zret hr dX4_parseSingle_21 (by first | rfl | exact nbq) (by (rw [sngT h2 h5]; exact pps_tst))
set_option maxRecDepth 100000 in
set_option maxHeartbeats 2000000 in
theorem c_ei_0 {g : Gl} {I : Ty} {L : TL} {na nt ni m : Nat} {nl : Nat → Nat}  (az sz : Nat) (nu fa : Int32) (st : Nat → Int32) (fd : Nat) (hf : fd ≤ 100) (hfd : I 15 0 = nI fd) (tx : Nat → Int32) (htx : I 16 = tx) (ha : az ≤ fd) (hs : sz ≤ az) : Ct g yX4_parseEither cX4_parseEither 5 (some .boolean) 7 0 0 [.ref (g.1 + 15), .int 4] (rI I (nI az) (nI sz) nu fa st) L (RT na nt ni) (NT nl) (NB + m) (Pps I L (RT na nt ni) (NT nl) (NB + m) sz fa st (eiL tx fd (sngR tx fd 0) 100 false false az [])) := by
  refine ct_of (by decide +kernel) (Nat.le_of_ble_eq_true rfl) (fun F hnm hr => ?_)
  clear hnm
  show V g F cX4_parseEither RX4 5 7 0 [(0, .ref (g.1 + 15)), (1, .int 4)] [] (rI I (nI az) (nI sz) nu fa st) L (RT na nt ni) (NT nl) (NB + m) 0 0
  have b2t : b2n true = 1 := rfl
  have b2f : b2n false = 0 := rfl
  have key : ∀ kz, ∀ (iz : Nat) (ei bo : Bool) (ag : Nat) (out : List Tk) (ng : Int32), iz + kz = 100 → sz + out.length + b2n bo + b2n ei ≤ ag → ag ≤ fd → eiL tx fd (sngR tx fd 0) kz ei bo ag out = eiL tx fd (sngR tx fd 0) 100 false false az [] → V g F cX4_parseEither RX4 5 7 7 [(4, .int (nI iz)), (3, .int (bb bo)), (2, .int (bb ei)), (0, .ref (g.1 + 15)), (1, .int 4)] [] (rI I (nI ag) (nI (sz + out.length)) ng fa (putL st sz (out.map ccd))) L (RT na nt ni) (NT nl) (NB + m) 0 0 := by
    intro kz
    induction kz with
    | zero =>
      intro iz ei bo ag out ng hik hinv hag hZ
      refine v_iload dX4_parseEither_7 0 rfl ?_
      refine v_bipush (v := 100) dX4_parseEither_9 (by decide) ?_
      refine v_icmp_geN (a := iz) (b := 100) (tgt := 77) dX4_parseEither_11 (by decide) rfl rfl (by omega) (by omega) (fun h1 => ?_) (fun h => by exfalso; omega)
      refine v_iconst (v := 0) dX4_parseEither_77 (by decide) ?_
      exact v_zret hr dX4_parseEither_78 (by first | rfl | exact nbq) (by (rw [← hZ]; exact pps_none))
    | succ kz ih =>
      intro iz ei bo ag out ng hik hinv hag hZ
      refine v_iload dX4_parseEither_7 0 rfl ?_
      refine v_bipush (v := 100) dX4_parseEither_9 (by decide) ?_
      refine v_icmp_geN (a := iz) (b := 100) (tgt := 77) dX4_parseEither_11 (by decide) rfl rfl (by omega) (by omega) (fun h => by exfalso; omega) (fun h2 => ?_)
      refine v_aload_n dX4_parseEither_14 rfl 3 rfl ?_
      refine v_iload_n dX4_parseEither_15 rfl 4 rfl ?_
      refine v_callPs (As := [.int 4]) (rest := []) lk_X4_76 (c_sng_0 ag (sz + out.length) ng fa (putL st sz (out.map ccd)) fd hf hfd tx htx (by omega) (by omega)) dX4_parseEither_16 rfl (ltn rfl) rfl rfl (Nat.le_of_ble_eq_true rfl) (by decide) (fun s3 ng4 tg5 ho6 => ?_)
      refine v_ifb_ne (tgt := 24) dX4_parseEither_19 (by decide) (fun h7 => ?_) (fun h7 => ?_)
      · -- ((sngR tx fd 0 ag).2.isSome = true)
        obtain ⟨co, hc⟩ := Option.isSome_iff_exists.mp h7
        obtain ⟨rfl, rfl⟩ := ho6 co hc
        have hq1 := sng_len 0 ag (sngR tx fd 0 ag).1 co (Prod.ext rfl hc)
        have hq2 := sng_in (tx := tx) (fd := fd) 0 ag hag
        have hl2 : (out ++ co).length = out.length + co.length := List.length_append
        refine v_I (I2 := (rI I (nI (sngR tx fd 0 ag).1) (nI (sz + (out ++ co).length)) ng4 fa (putL st sz ((out ++ co).map ccd)))) (by rw [ptc_app, sz_app]) ?_
        cases bo with
        | false =>
          show V g F cX4_parseEither RX4 5 7 24 [(4, .int (nI iz)), (3, .int 0), (2, .int (bb ei)), (0, .ref (g.1 + 15)), (1, .int 4)] [] (rI I (nI (sngR tx fd 0 ag).1) (nI (sz + (out ++ co).length)) ng4 fa (putL st sz ((out ++ co).map ccd))) L (RT na nt ni) (NT nl) (NB + m) 0 0
          refine v_iload_n dX4_parseEither_24 rfl 1 rfl ?_
          refine v_if_eq (tgt := 34) dX4_parseEither_25 (by decide) (fun _ => ?_) (fun h8 => by first | exact absurd h8 (by decide) | exact absurd (by decide) h8)
          refine v_I (I2 := (rI I (nI (sngR tx fd 0 ag).1) (nI (sz + ((out ++ co) ++ anL false).length)) ng4 fa (putL st sz (((out ++ co) ++ anL false).map ccd)))) (by rw [show anL false = [] from rfl, List.append_nil]) ?_
          have hl3 : ((out ++ co) ++ anL false).length = out.length + co.length + b2n false := by rw [List.length_append, List.length_append, anL_len]
          refine v_aload_n dX4_parseEither_34 rfl 3 rfl ?_
          refine v_bipush (v := 38) dX4_parseEither_35 (by decide) ?_
          refine v_callVi (As := [.int 38]) (rest := []) lk_X4_33 (c_X4_takeSign 38 ((sngR tx fd 0 ag).1) (sz + ((out ++ co) ++ anL false).length) ng4 fa (putL st sz (((out ++ co) ++ anL false).map ccd)) fd hf hfd tx htx (by omega)) dX4_parseEither_37 rfl (ltn rfl) rfl rfl (Nat.le_of_ble_eq_true rfl) (by decide) ?_
          refine v_istore_n (lv2 := [(3, .int (bq (nxt tx fd ((sngR tx fd 0 ag).1) = 38))), (4, .int (nI iz)), (2, .int (bb ei)), (0, .ref (g.1 + 15)), (1, .int 4)]) dX4_parseEither_40 rfl (by decide) rfl ?_
          refine v_iload_n dX4_parseEither_41 rfl 0 rfl ?_
          refine v_ifb_eq (tgt := 48) dX4_parseEither_42 (by decide) (fun h9 => ?_) (fun h9 => ?_)
          · -- not (nxt tx fd ((sngR tx fd 0 ag).1) = 38)
            refine v_I (I2 := (rI I (nI (sngR tx fd 0 ag).1) (nI (sz + ((out ++ co) ++ anL false).length)) ng4 fa (putL st sz (((out ++ co) ++ anL false).map ccd)))) (by rw [ifc_f h9]) ?_
            cases ei with
            | false =>
              show V g F cX4_parseEither RX4 5 7 48 [(3, .int (bq (nxt tx fd ((sngR tx fd 0 ag).1) = 38))), (4, .int (nI iz)), (2, .int 0), (0, .ref (g.1 + 15)), (1, .int 4)] [] (rI I (nI (sngR tx fd 0 ag).1) (nI (sz + ((out ++ co) ++ anL false).length)) ng4 fa (putL st sz (((out ++ co) ++ anL false).map ccd))) L (RT na nt ni) (NT nl) (NB + m) 0 0
              refine v_iload_n dX4_parseEither_48 rfl 2 rfl ?_
              refine v_if_eq (tgt := 58) dX4_parseEither_49 (by decide) (fun _ => ?_) (fun h10 => by first | exact absurd h10 (by decide) | exact absurd (by decide) h10)
              refine v_I (I2 := (rI I (nI (sngR tx fd 0 ag).1) (nI (sz + (((out ++ co) ++ anL false) ++ eoL false).length)) ng4 fa (putL st sz ((((out ++ co) ++ anL false) ++ eoL false).map ccd)))) (by rw [show eoL false = [] from rfl, List.append_nil]) ?_
              have hl4 : (((out ++ co) ++ anL false) ++ eoL false).length = out.length + co.length + b2n false + b2n false := by rw [List.length_append, hl3, eoL_len]
              refine v_aload_n dX4_parseEither_58 rfl 3 rfl ?_
              refine v_bipush (v := 124) dX4_parseEither_59 (by decide) ?_
              refine v_callVi (As := [.int 124]) (rest := []) lk_X4_33 (c_X4_takeSign 124 ((sngR tx fd 0 ag).1) (sz + (((out ++ co) ++ anL false) ++ eoL false).length) ng4 fa (putL st sz ((((out ++ co) ++ anL false) ++ eoL false).map ccd)) fd hf hfd tx htx (by omega)) dX4_parseEither_61 rfl (ltn rfl) rfl rfl (Nat.le_of_ble_eq_true rfl) (by decide) ?_
              refine v_istore_n (lv2 := [(2, .int (bq (nxt tx fd ((sngR tx fd 0 ag).1) = 124))), (3, .int (bq (nxt tx fd ((sngR tx fd 0 ag).1) = 38))), (4, .int (nI iz)), (0, .ref (g.1 + 15)), (1, .int 4)]) dX4_parseEither_64 rfl (by decide) rfl ?_
              refine v_iload_n dX4_parseEither_65 rfl 0 rfl ?_
              refine v_ifb_ne (tgt := 71) dX4_parseEither_66 (by decide) (fun h11 => ?_) (fun h11 => ?_)
              · -- (nxt tx fd ((sngR tx fd 0 ag).1) = 124)
                have hlq := nxt_eq h11 (by decide)
                refine v_I (I2 := (rI I (nI ((sngR tx fd 0 ag).1 + 1)) (nI (sz + (((out ++ co) ++ anL false) ++ eoL false).length)) ng4 fa (putL st sz ((((out ++ co) ++ anL false) ++ eoL false).map ccd)))) (by rw [ifc_t h11]) ?_
                refine v_inc (v := nI (iz + 1)) (lv2 := [(4, .int (nI (iz + 1))), (2, .int (bq (nxt tx fd ((sngR tx fd 0 ag).1) = 124))), (3, .int (bq (nxt tx fd ((sngR tx fd 0 ag).1) = 38))), (0, .ref (g.1 + 15)), (1, .int 4)]) dX4_parseEither_71 2 rfl (nx_inc rfl) (by decide) rfl ?_
                refine v_goto (tgt := 7) dX4_parseEither_74 (by decide) ?_
                refine v_sub (lv2 := [(4, .int (nI (iz + 1))), (3, .int (bq (nxt tx fd ((sngR tx fd 0 ag).1) = 38))), (2, .int (bq (nxt tx fd ((sngR tx fd 0 ag).1) = 124))), (0, .ref (g.1 + 15)), (1, .int 4)]) [0, 2, 1, 3, 4] rfl ?_
                refine v_lv (lv2 := [(4, .int (nI (iz + 1))), (3, .int (bb false)), (2, .int (bb true)), (0, .ref (g.1 + 15)), (1, .int 4)]) (by rw [bq_t h11, bq_f h9]; rfl) ?_
                exact ih (iz + 1) true false _ _ _ (by omega) (by rw [show b2n true = 1 from rfl, show b2n false = 0 from rfl]; omega) (by omega) (by rw [← hZ, eiL_eo hc h9 h11])
              · -- not (nxt tx fd ((sngR tx fd 0 ag).1) = 124)
                refine v_I (I2 := (rI I (nI (sngR tx fd 0 ag).1) (nI (sz + (((out ++ co) ++ anL false) ++ eoL false).length)) ng4 fa (putL st sz ((((out ++ co) ++ anL false) ++ eoL false).map ccd)))) (by rw [ifc_f h11]) ?_
                refine v_iconst (v := 1) dX4_parseEither_69 (by decide) ?_
                exact v_zret hr dX4_parseEither_70 (by first | rfl | exact nbq) (by (rw [← hZ, eiL_end hc h9 h11]; exact pps_some))
            | true =>
              show V g F cX4_parseEither RX4 5 7 48 [(3, .int (bq (nxt tx fd ((sngR tx fd 0 ag).1) = 38))), (4, .int (nI iz)), (2, .int 1), (0, .ref (g.1 + 15)), (1, .int 4)] [] (rI I (nI (sngR tx fd 0 ag).1) (nI (sz + ((out ++ co) ++ anL false).length)) ng4 fa (putL st sz (((out ++ co) ++ anL false).map ccd))) L (RT na nt ni) (NT nl) (NB + m) 0 0
              refine v_iload_n dX4_parseEither_48 rfl 2 rfl ?_
              refine v_if_eq (tgt := 58) dX4_parseEither_49 (by decide) (fun h12 => by first | exact absurd h12 (by decide) | exact absurd (by decide) h12) (fun _ => ?_)
              refine v_aload_n dX4_parseEither_52 rfl 3 rfl ?_
              refine v_iconst (v := 2) dX4_parseEither_53 (by decide) ?_
              refine v_iconst (v := 0) dX4_parseEither_54 (by decide) ?_
              refine v_callVv (As := [.int 2, .int 0]) (rest := []) lk_X4_72 (c_X4_addStep 2 0 ((sngR tx fd 0 ag).1) (sz + ((out ++ co) ++ anL false).length) ng4 fa (putL st sz (((out ++ co) ++ anL false).map ccd)) fd hf hfd tx htx (by omega)) dX4_parseEither_55 rfl (ltn rfl) rfl rfl (Nat.le_of_ble_eq_true rfl) (by decide) ?_
              refine v_I (I2 := (rI I (nI (sngR tx fd 0 ag).1) (nI (sz + (((out ++ co) ++ anL false) ++ eoL true).length)) ng4 fa (putL st sz ((((out ++ co) ++ anL false) ++ eoL true).map ccd)))) (by rw [ptc_one _ Tk_eo ccd_eo, sz_one _ Tk_eo]; rfl) ?_
              have hl4 : (((out ++ co) ++ anL false) ++ eoL true).length = out.length + co.length + b2n false + b2n true := by rw [List.length_append, hl3, eoL_len]
              refine v_aload_n dX4_parseEither_58 rfl 3 rfl ?_
              refine v_bipush (v := 124) dX4_parseEither_59 (by decide) ?_
              refine v_callVi (As := [.int 124]) (rest := []) lk_X4_33 (c_X4_takeSign 124 ((sngR tx fd 0 ag).1) (sz + (((out ++ co) ++ anL false) ++ eoL true).length) ng4 fa (putL st sz ((((out ++ co) ++ anL false) ++ eoL true).map ccd)) fd hf hfd tx htx (by omega)) dX4_parseEither_61 rfl (ltn rfl) rfl rfl (Nat.le_of_ble_eq_true rfl) (by decide) ?_
              refine v_istore_n (lv2 := [(2, .int (bq (nxt tx fd ((sngR tx fd 0 ag).1) = 124))), (3, .int (bq (nxt tx fd ((sngR tx fd 0 ag).1) = 38))), (4, .int (nI iz)), (0, .ref (g.1 + 15)), (1, .int 4)]) dX4_parseEither_64 rfl (by decide) rfl ?_
              refine v_iload_n dX4_parseEither_65 rfl 0 rfl ?_
              refine v_ifb_ne (tgt := 71) dX4_parseEither_66 (by decide) (fun h13 => ?_) (fun h13 => ?_)
              · -- (nxt tx fd ((sngR tx fd 0 ag).1) = 124)
                have hlq := nxt_eq h13 (by decide)
                refine v_I (I2 := (rI I (nI ((sngR tx fd 0 ag).1 + 1)) (nI (sz + (((out ++ co) ++ anL false) ++ eoL true).length)) ng4 fa (putL st sz ((((out ++ co) ++ anL false) ++ eoL true).map ccd)))) (by rw [ifc_t h13]) ?_
                refine v_inc (v := nI (iz + 1)) (lv2 := [(4, .int (nI (iz + 1))), (2, .int (bq (nxt tx fd ((sngR tx fd 0 ag).1) = 124))), (3, .int (bq (nxt tx fd ((sngR tx fd 0 ag).1) = 38))), (0, .ref (g.1 + 15)), (1, .int 4)]) dX4_parseEither_71 2 rfl (nx_inc rfl) (by decide) rfl ?_
                refine v_goto (tgt := 7) dX4_parseEither_74 (by decide) ?_
                refine v_sub (lv2 := [(4, .int (nI (iz + 1))), (3, .int (bq (nxt tx fd ((sngR tx fd 0 ag).1) = 38))), (2, .int (bq (nxt tx fd ((sngR tx fd 0 ag).1) = 124))), (0, .ref (g.1 + 15)), (1, .int 4)]) [0, 2, 1, 3, 4] rfl ?_
                refine v_lv (lv2 := [(4, .int (nI (iz + 1))), (3, .int (bb false)), (2, .int (bb true)), (0, .ref (g.1 + 15)), (1, .int 4)]) (by rw [bq_t h13, bq_f h9]; rfl) ?_
                exact ih (iz + 1) true false _ _ _ (by omega) (by rw [show b2n true = 1 from rfl, show b2n false = 0 from rfl]; omega) (by omega) (by rw [← hZ, eiL_eo hc h9 h13])
              · -- not (nxt tx fd ((sngR tx fd 0 ag).1) = 124)
                refine v_I (I2 := (rI I (nI (sngR tx fd 0 ag).1) (nI (sz + (((out ++ co) ++ anL false) ++ eoL true).length)) ng4 fa (putL st sz ((((out ++ co) ++ anL false) ++ eoL true).map ccd)))) (by rw [ifc_f h13]) ?_
                refine v_iconst (v := 1) dX4_parseEither_69 (by decide) ?_
                exact v_zret hr dX4_parseEither_70 (by first | rfl | exact nbq) (by (rw [← hZ, eiL_end hc h9 h13]; exact pps_some))
          · -- (nxt tx fd ((sngR tx fd 0 ag).1) = 38)
            have hlq := nxt_eq h9 (by decide)
            refine v_I (I2 := (rI I (nI ((sngR tx fd 0 ag).1 + 1)) (nI (sz + ((out ++ co) ++ anL false).length)) ng4 fa (putL st sz (((out ++ co) ++ anL false).map ccd)))) (by rw [ifc_t h9]) ?_
            refine v_goto (tgt := 71) dX4_parseEither_45 (by decide) ?_
            refine v_inc (v := nI (iz + 1)) (lv2 := [(4, .int (nI (iz + 1))), (3, .int (bq (nxt tx fd ((sngR tx fd 0 ag).1) = 38))), (2, .int (bb ei)), (0, .ref (g.1 + 15)), (1, .int 4)]) dX4_parseEither_71 1 rfl (nx_inc rfl) (by decide) rfl ?_
            refine v_goto (tgt := 7) dX4_parseEither_74 (by decide) ?_
            refine v_lv (lv2 := [(4, .int (nI (iz + 1))), (3, .int (bb true)), (2, .int (bb ei)), (0, .ref (g.1 + 15)), (1, .int 4)]) (by rw [bq_t h9]; rfl) ?_
            exact ih (iz + 1) ei true _ _ _ (by omega) (by rw [show b2n true = 1 from rfl]; omega) (by omega) (by rw [← hZ, eiL_an hc h9])
        | true =>
          show V g F cX4_parseEither RX4 5 7 24 [(4, .int (nI iz)), (3, .int 1), (2, .int (bb ei)), (0, .ref (g.1 + 15)), (1, .int 4)] [] (rI I (nI (sngR tx fd 0 ag).1) (nI (sz + (out ++ co).length)) ng4 fa (putL st sz ((out ++ co).map ccd))) L (RT na nt ni) (NT nl) (NB + m) 0 0
          refine v_iload_n dX4_parseEither_24 rfl 1 rfl ?_
          refine v_if_eq (tgt := 34) dX4_parseEither_25 (by decide) (fun h14 => by first | exact absurd h14 (by decide) | exact absurd (by decide) h14) (fun _ => ?_)
          refine v_aload_n dX4_parseEither_28 rfl 3 rfl ?_
          refine v_iconst (v := 1) dX4_parseEither_29 (by decide) ?_
          refine v_iconst (v := 0) dX4_parseEither_30 (by decide) ?_
          refine v_callVv (As := [.int 1, .int 0]) (rest := []) lk_X4_72 (c_X4_addStep 1 0 ((sngR tx fd 0 ag).1) (sz + (out ++ co).length) ng4 fa (putL st sz ((out ++ co).map ccd)) fd hf hfd tx htx (by omega)) dX4_parseEither_31 rfl (ltn rfl) rfl rfl (Nat.le_of_ble_eq_true rfl) (by decide) ?_
          refine v_I (I2 := (rI I (nI (sngR tx fd 0 ag).1) (nI (sz + ((out ++ co) ++ anL true).length)) ng4 fa (putL st sz (((out ++ co) ++ anL true).map ccd)))) (by rw [ptc_one _ Tk_an ccd_an, sz_one _ Tk_an]; rfl) ?_
          have hl3 : ((out ++ co) ++ anL true).length = out.length + co.length + b2n true := by rw [List.length_append, List.length_append, anL_len]
          refine v_aload_n dX4_parseEither_34 rfl 3 rfl ?_
          refine v_bipush (v := 38) dX4_parseEither_35 (by decide) ?_
          refine v_callVi (As := [.int 38]) (rest := []) lk_X4_33 (c_X4_takeSign 38 ((sngR tx fd 0 ag).1) (sz + ((out ++ co) ++ anL true).length) ng4 fa (putL st sz (((out ++ co) ++ anL true).map ccd)) fd hf hfd tx htx (by omega)) dX4_parseEither_37 rfl (ltn rfl) rfl rfl (Nat.le_of_ble_eq_true rfl) (by decide) ?_
          refine v_istore_n (lv2 := [(3, .int (bq (nxt tx fd ((sngR tx fd 0 ag).1) = 38))), (4, .int (nI iz)), (2, .int (bb ei)), (0, .ref (g.1 + 15)), (1, .int 4)]) dX4_parseEither_40 rfl (by decide) rfl ?_
          refine v_iload_n dX4_parseEither_41 rfl 0 rfl ?_
          refine v_ifb_eq (tgt := 48) dX4_parseEither_42 (by decide) (fun h15 => ?_) (fun h15 => ?_)
          · -- not (nxt tx fd ((sngR tx fd 0 ag).1) = 38)
            refine v_I (I2 := (rI I (nI (sngR tx fd 0 ag).1) (nI (sz + ((out ++ co) ++ anL true).length)) ng4 fa (putL st sz (((out ++ co) ++ anL true).map ccd)))) (by rw [ifc_f h15]) ?_
            cases ei with
            | false =>
              show V g F cX4_parseEither RX4 5 7 48 [(3, .int (bq (nxt tx fd ((sngR tx fd 0 ag).1) = 38))), (4, .int (nI iz)), (2, .int 0), (0, .ref (g.1 + 15)), (1, .int 4)] [] (rI I (nI (sngR tx fd 0 ag).1) (nI (sz + ((out ++ co) ++ anL true).length)) ng4 fa (putL st sz (((out ++ co) ++ anL true).map ccd))) L (RT na nt ni) (NT nl) (NB + m) 0 0
              refine v_iload_n dX4_parseEither_48 rfl 2 rfl ?_
              refine v_if_eq (tgt := 58) dX4_parseEither_49 (by decide) (fun _ => ?_) (fun h16 => by first | exact absurd h16 (by decide) | exact absurd (by decide) h16)
              refine v_I (I2 := (rI I (nI (sngR tx fd 0 ag).1) (nI (sz + (((out ++ co) ++ anL true) ++ eoL false).length)) ng4 fa (putL st sz ((((out ++ co) ++ anL true) ++ eoL false).map ccd)))) (by rw [show eoL false = [] from rfl, List.append_nil]) ?_
              have hl4 : (((out ++ co) ++ anL true) ++ eoL false).length = out.length + co.length + b2n true + b2n false := by rw [List.length_append, hl3, eoL_len]
              refine v_aload_n dX4_parseEither_58 rfl 3 rfl ?_
              refine v_bipush (v := 124) dX4_parseEither_59 (by decide) ?_
              refine v_callVi (As := [.int 124]) (rest := []) lk_X4_33 (c_X4_takeSign 124 ((sngR tx fd 0 ag).1) (sz + (((out ++ co) ++ anL true) ++ eoL false).length) ng4 fa (putL st sz ((((out ++ co) ++ anL true) ++ eoL false).map ccd)) fd hf hfd tx htx (by omega)) dX4_parseEither_61 rfl (ltn rfl) rfl rfl (Nat.le_of_ble_eq_true rfl) (by decide) ?_
              refine v_istore_n (lv2 := [(2, .int (bq (nxt tx fd ((sngR tx fd 0 ag).1) = 124))), (3, .int (bq (nxt tx fd ((sngR tx fd 0 ag).1) = 38))), (4, .int (nI iz)), (0, .ref (g.1 + 15)), (1, .int 4)]) dX4_parseEither_64 rfl (by decide) rfl ?_
              refine v_iload_n dX4_parseEither_65 rfl 0 rfl ?_
              refine v_ifb_ne (tgt := 71) dX4_parseEither_66 (by decide) (fun h17 => ?_) (fun h17 => ?_)
              · -- (nxt tx fd ((sngR tx fd 0 ag).1) = 124)
                have hlq := nxt_eq h17 (by decide)
                refine v_I (I2 := (rI I (nI ((sngR tx fd 0 ag).1 + 1)) (nI (sz + (((out ++ co) ++ anL true) ++ eoL false).length)) ng4 fa (putL st sz ((((out ++ co) ++ anL true) ++ eoL false).map ccd)))) (by rw [ifc_t h17]) ?_
                refine v_inc (v := nI (iz + 1)) (lv2 := [(4, .int (nI (iz + 1))), (2, .int (bq (nxt tx fd ((sngR tx fd 0 ag).1) = 124))), (3, .int (bq (nxt tx fd ((sngR tx fd 0 ag).1) = 38))), (0, .ref (g.1 + 15)), (1, .int 4)]) dX4_parseEither_71 2 rfl (nx_inc rfl) (by decide) rfl ?_
                refine v_goto (tgt := 7) dX4_parseEither_74 (by decide) ?_
                refine v_sub (lv2 := [(4, .int (nI (iz + 1))), (3, .int (bq (nxt tx fd ((sngR tx fd 0 ag).1) = 38))), (2, .int (bq (nxt tx fd ((sngR tx fd 0 ag).1) = 124))), (0, .ref (g.1 + 15)), (1, .int 4)]) [0, 2, 1, 3, 4] rfl ?_
                refine v_lv (lv2 := [(4, .int (nI (iz + 1))), (3, .int (bb false)), (2, .int (bb true)), (0, .ref (g.1 + 15)), (1, .int 4)]) (by rw [bq_t h17, bq_f h15]; rfl) ?_
                exact ih (iz + 1) true false _ _ _ (by omega) (by rw [show b2n true = 1 from rfl, show b2n false = 0 from rfl]; omega) (by omega) (by rw [← hZ, eiL_eo hc h15 h17])
              · -- not (nxt tx fd ((sngR tx fd 0 ag).1) = 124)
                refine v_I (I2 := (rI I (nI (sngR tx fd 0 ag).1) (nI (sz + (((out ++ co) ++ anL true) ++ eoL false).length)) ng4 fa (putL st sz ((((out ++ co) ++ anL true) ++ eoL false).map ccd)))) (by rw [ifc_f h17]) ?_
                refine v_iconst (v := 1) dX4_parseEither_69 (by decide) ?_
                exact v_zret hr dX4_parseEither_70 (by first | rfl | exact nbq) (by (rw [← hZ, eiL_end hc h15 h17]; exact pps_some))
            | true =>
              show V g F cX4_parseEither RX4 5 7 48 [(3, .int (bq (nxt tx fd ((sngR tx fd 0 ag).1) = 38))), (4, .int (nI iz)), (2, .int 1), (0, .ref (g.1 + 15)), (1, .int 4)] [] (rI I (nI (sngR tx fd 0 ag).1) (nI (sz + ((out ++ co) ++ anL true).length)) ng4 fa (putL st sz (((out ++ co) ++ anL true).map ccd))) L (RT na nt ni) (NT nl) (NB + m) 0 0
              refine v_iload_n dX4_parseEither_48 rfl 2 rfl ?_
              refine v_if_eq (tgt := 58) dX4_parseEither_49 (by decide) (fun h18 => by first | exact absurd h18 (by decide) | exact absurd (by decide) h18) (fun _ => ?_)
              refine v_aload_n dX4_parseEither_52 rfl 3 rfl ?_
              refine v_iconst (v := 2) dX4_parseEither_53 (by decide) ?_
              refine v_iconst (v := 0) dX4_parseEither_54 (by decide) ?_
              refine v_callVv (As := [.int 2, .int 0]) (rest := []) lk_X4_72 (c_X4_addStep 2 0 ((sngR tx fd 0 ag).1) (sz + ((out ++ co) ++ anL true).length) ng4 fa (putL st sz (((out ++ co) ++ anL true).map ccd)) fd hf hfd tx htx (by omega)) dX4_parseEither_55 rfl (ltn rfl) rfl rfl (Nat.le_of_ble_eq_true rfl) (by decide) ?_
              refine v_I (I2 := (rI I (nI (sngR tx fd 0 ag).1) (nI (sz + (((out ++ co) ++ anL true) ++ eoL true).length)) ng4 fa (putL st sz ((((out ++ co) ++ anL true) ++ eoL true).map ccd)))) (by rw [ptc_one _ Tk_eo ccd_eo, sz_one _ Tk_eo]; rfl) ?_
              have hl4 : (((out ++ co) ++ anL true) ++ eoL true).length = out.length + co.length + b2n true + b2n true := by rw [List.length_append, hl3, eoL_len]
              refine v_aload_n dX4_parseEither_58 rfl 3 rfl ?_
              refine v_bipush (v := 124) dX4_parseEither_59 (by decide) ?_
              refine v_callVi (As := [.int 124]) (rest := []) lk_X4_33 (c_X4_takeSign 124 ((sngR tx fd 0 ag).1) (sz + (((out ++ co) ++ anL true) ++ eoL true).length) ng4 fa (putL st sz ((((out ++ co) ++ anL true) ++ eoL true).map ccd)) fd hf hfd tx htx (by omega)) dX4_parseEither_61 rfl (ltn rfl) rfl rfl (Nat.le_of_ble_eq_true rfl) (by decide) ?_
              refine v_istore_n (lv2 := [(2, .int (bq (nxt tx fd ((sngR tx fd 0 ag).1) = 124))), (3, .int (bq (nxt tx fd ((sngR tx fd 0 ag).1) = 38))), (4, .int (nI iz)), (0, .ref (g.1 + 15)), (1, .int 4)]) dX4_parseEither_64 rfl (by decide) rfl ?_
              refine v_iload_n dX4_parseEither_65 rfl 0 rfl ?_
              refine v_ifb_ne (tgt := 71) dX4_parseEither_66 (by decide) (fun h19 => ?_) (fun h19 => ?_)
              · -- (nxt tx fd ((sngR tx fd 0 ag).1) = 124)
                have hlq := nxt_eq h19 (by decide)
                refine v_I (I2 := (rI I (nI ((sngR tx fd 0 ag).1 + 1)) (nI (sz + (((out ++ co) ++ anL true) ++ eoL true).length)) ng4 fa (putL st sz ((((out ++ co) ++ anL true) ++ eoL true).map ccd)))) (by rw [ifc_t h19]) ?_
                refine v_inc (v := nI (iz + 1)) (lv2 := [(4, .int (nI (iz + 1))), (2, .int (bq (nxt tx fd ((sngR tx fd 0 ag).1) = 124))), (3, .int (bq (nxt tx fd ((sngR tx fd 0 ag).1) = 38))), (0, .ref (g.1 + 15)), (1, .int 4)]) dX4_parseEither_71 2 rfl (nx_inc rfl) (by decide) rfl ?_
                refine v_goto (tgt := 7) dX4_parseEither_74 (by decide) ?_
                refine v_sub (lv2 := [(4, .int (nI (iz + 1))), (3, .int (bq (nxt tx fd ((sngR tx fd 0 ag).1) = 38))), (2, .int (bq (nxt tx fd ((sngR tx fd 0 ag).1) = 124))), (0, .ref (g.1 + 15)), (1, .int 4)]) [0, 2, 1, 3, 4] rfl ?_
                refine v_lv (lv2 := [(4, .int (nI (iz + 1))), (3, .int (bb false)), (2, .int (bb true)), (0, .ref (g.1 + 15)), (1, .int 4)]) (by rw [bq_t h19, bq_f h15]; rfl) ?_
                exact ih (iz + 1) true false _ _ _ (by omega) (by rw [show b2n true = 1 from rfl, show b2n false = 0 from rfl]; omega) (by omega) (by rw [← hZ, eiL_eo hc h15 h19])
              · -- not (nxt tx fd ((sngR tx fd 0 ag).1) = 124)
                refine v_I (I2 := (rI I (nI (sngR tx fd 0 ag).1) (nI (sz + (((out ++ co) ++ anL true) ++ eoL true).length)) ng4 fa (putL st sz ((((out ++ co) ++ anL true) ++ eoL true).map ccd)))) (by rw [ifc_f h19]) ?_
                refine v_iconst (v := 1) dX4_parseEither_69 (by decide) ?_
                exact v_zret hr dX4_parseEither_70 (by first | rfl | exact nbq) (by (rw [← hZ, eiL_end hc h15 h19]; exact pps_some))
          · -- (nxt tx fd ((sngR tx fd 0 ag).1) = 38)
            have hlq := nxt_eq h15 (by decide)
            refine v_I (I2 := (rI I (nI ((sngR tx fd 0 ag).1 + 1)) (nI (sz + ((out ++ co) ++ anL true).length)) ng4 fa (putL st sz (((out ++ co) ++ anL true).map ccd)))) (by rw [ifc_t h15]) ?_
            refine v_goto (tgt := 71) dX4_parseEither_45 (by decide) ?_
            refine v_inc (v := nI (iz + 1)) (lv2 := [(4, .int (nI (iz + 1))), (3, .int (bq (nxt tx fd ((sngR tx fd 0 ag).1) = 38))), (2, .int (bb ei)), (0, .ref (g.1 + 15)), (1, .int 4)]) dX4_parseEither_71 1 rfl (nx_inc rfl) (by decide) rfl ?_
            refine v_goto (tgt := 7) dX4_parseEither_74 (by decide) ?_
            refine v_lv (lv2 := [(4, .int (nI (iz + 1))), (3, .int (bb true)), (2, .int (bb ei)), (0, .ref (g.1 + 15)), (1, .int 4)]) (by rw [bq_t h15]; rfl) ?_
            exact ih (iz + 1) ei true _ _ _ (by omega) (by rw [show b2n true = 1 from rfl]; omega) (by omega) (by rw [← hZ, eiL_an hc h15])
      · -- not ((sngR tx fd 0 ag).2.isSome = true)
        refine v_iconst (v := 0) dX4_parseEither_22 (by decide) ?_
        exact v_zret hr dX4_parseEither_23 (by first | rfl | exact nbq) (by (rw [← hZ, eiL_no h7]; exact pps_none))
  refine v_iconst (v := 0) dX4_parseEither_0 (by decide) ?_
  refine v_istore_n (lv2 := [(2, .int 0), (0, .ref (g.1 + 15)), (1, .int 4)]) dX4_parseEither_1 rfl (by decide) rfl ?_
  refine v_iconst (v := 0) dX4_parseEither_2 (by decide) ?_
  refine v_istore_n (lv2 := [(3, .int 0), (2, .int 0), (0, .ref (g.1 + 15)), (1, .int 4)]) dX4_parseEither_3 rfl (by decide) rfl ?_
  refine v_iconst (v := 0) dX4_parseEither_4 (by decide) ?_
  refine v_istore (lv2 := [(4, .int 0), (3, .int 0), (2, .int 0), (0, .ref (g.1 + 15)), (1, .int 4)]) dX4_parseEither_5 (by decide) rfl ?_
  refine v_lv (lv2 := [(4, .int (nI 0)), (3, .int (bb false)), (2, .int (bb false)), (0, .ref (g.1 + 15)), (1, .int 4)]) (by rfl) ?_
  refine v_I (I2 := (rI I (nI az) (nI (sz + ([] : List Tk).length)) nu fa (putL st sz (([] : List Tk).map ccd)))) (by rfl) ?_
  exact key 100 0 false false az [] nu rfl (by show sz + 0 + 0 + 0 ≤ az; omega) ha rfl
set_option maxRecDepth 100000 in
set_option maxHeartbeats 1000000 in
theorem c_sng_1 {g : Gl} {I : Ty} {L : TL} {na nt ni m : Nat} {nl : Nat → Nat}  (az sz : Nat) (nu fa : Int32) (st : Nat → Int32) (fd : Nat) (hf : fd ≤ 100) (hfd : I 15 0 = nI fd) (tx : Nat → Int32) (htx : I 16 = tx) (ha : az ≤ fd) (hs : sz ≤ az) : Ct g yX4_parseSingle cX4_parseSingle 3 (some .boolean) 8 0 0 [.ref (g.1 + 15), .int 3] (rI I (nI az) (nI sz) nu fa st) L (RT na nt ni) (NT nl) (NB + m) (Pps I L (RT na nt ni) (NT nl) (NB + m) sz fa st (sngR tx fd 1 az)) := by
  refine ct_of (by decide +kernel) (Nat.le_of_ble_eq_true rfl) (fun F hnm hr => ?_)
  clear hnm
  show V g F cX4_parseSingle RX4 3 8 0 [(0, .ref (g.1 + 15)), (1, .int 3)] [] (rI I (nI az) (nI sz) nu fa st) L (RT na nt ni) (NT nl) (NB + m) 0 0
  refine v_aload_n dX4_parseSingle_0 rfl 0 rfl ?_
  refine v_callVi (As := []) (rest := []) lk_X4_48 (c_X4_sign az sz nu fa st fd hf hfd tx htx (by omega)) dX4_parseSingle_1 rfl (ltn rfl) rfl rfl (Nat.le_of_ble_eq_true rfl) (by decide) ?_
  refine v_istore_n (lv2 := [(2, .int (nxt tx fd az)), (0, .ref (g.1 + 15)), (1, .int 3)]) dX4_parseSingle_4 rfl (by decide) rfl ?_
  refine v_iload_n dX4_parseSingle_5 rfl 0 rfl ?_
  refine v_bipush (v := 33) dX4_parseSingle_6 (by decide) ?_
  refine v_icmp_eq (tgt := 22) dX4_parseSingle_8 (by decide) (fun h2 => ?_) (fun h2 => ?_)
  · refine v_iload_n dX4_parseSingle_22 rfl 2 rfl ?_
    refine v_iconst (v := 4) dX4_parseSingle_23 (by decide) ?_
    refine v_icmp_lt (tgt := 29) dX4_parseSingle_24 (by decide) (fun _ => ?_) (fun h3 => by first | exact absurd h3 (by decide) | exact absurd (by decide) h3)
    refine v_aload_n dX4_parseSingle_29 rfl 1 rfl ?_
    refine v_dup dX4_parseSingle_30 rfl ?_
    refine v_get (v := .int ((rI I (nI az) (nI sz) nu fa st) 15 1)) fa_X4_20 dX4_parseSingle_31 rfl (by decide) (ltn rfl) rfl ?_
    refine v_is (y := nI az) (by rfl) ?_
    refine v_iconst (v := 1) dX4_parseSingle_34 (by decide) ?_
    refine v_iadd dX4_parseSingle_35 ?_
    refine v_is (nx_add rfl rfl) ?_
    refine v_puti pa_X4_20 dX4_parseSingle_36 rfl (by decide) (ltn rfl) (by show 1 < 7; decide) rfl ?_
    refine v_I (I2 := (rI I (nI (az + 1)) (nI sz) nu fa st)) (by first | rfl | (simp only [rI_a, rI_sc, rI_nu, rI_fa, rI_st]; done)) ?_
    have hlt := nxt_eq h2 (by decide)
    refine v_iload_n dX4_parseSingle_39 rfl 0 rfl ?_
    refine v_bipush (v := 40) dX4_parseSingle_40 (by decide) ?_
    refine v_icmp_ne (tgt := 70) dX4_parseSingle_42 (by decide) (fun _ => ?_) (fun hx => absurd (h2.symm.trans hx) (by decide))
    refine v_aload_n dX4_parseSingle_70 rfl 1 rfl ?_
    refine v_iload_n dX4_parseSingle_71 rfl 2 rfl ?_
    refine v_iconst (v := 1) dX4_parseSingle_72 (by decide) ?_
    refine v_iadd dX4_parseSingle_73 ?_
    refine v_is (nx_add rfl rfl) ?_
    refine v_callPs (As := [.int (nI (3 + 1))]) (rest := []) lk_X4_76 (c_sng_0 (az + 1) sz nu fa st fd hf hfd tx htx (by omega) (by omega)) dX4_parseSingle_74 rfl (ltn rfl) rfl rfl (Nat.le_of_ble_eq_true rfl) (by decide) (fun s5 ng6 tg7 ho8 => ?_)
    refine v_ifb_ne (tgt := 82) dX4_parseSingle_77 (by decide) (fun h9 => ?_) (fun h9 => ?_)
    · -- ((sngR tx fd 0 (az + 1)).2.isSome = true)
      obtain ⟨co, hc⟩ := Option.isSome_iff_exists.mp h9
      obtain ⟨rfl, rfl⟩ := ho8 co hc
      have hq1 := sng_len 0 (az + 1) (sngR tx fd 0 (az + 1)).1 co (Prod.ext rfl hc)
      have hq2 := sng_in (tx := tx) (fd := fd) 0 (az + 1) (by omega)
      refine v_aload_n dX4_parseSingle_82 rfl 1 rfl ?_
      refine v_iconst (v := 0) dX4_parseSingle_83 (by decide) ?_
      refine v_iconst (v := 0) dX4_parseSingle_84 (by decide) ?_
      refine v_callVv (As := [.int 0, .int 0]) (rest := []) lk_X4_72 (c_X4_addStep 0 0 ((sngR tx fd 0 (az + 1)).1) (sz + co.length) ng6 fa (putL st sz (co.map ccd)) fd hf hfd tx htx (by omega)) dX4_parseSingle_85 rfl (ltn rfl) rfl rfl (Nat.le_of_ble_eq_true rfl) (by decide) ?_
      refine v_I (I2 := (rI I (nI (sngR tx fd 0 (az + 1)).1) (nI (sz + (co ++ [Tk_no]).length)) ng6 fa (putL st sz ((co ++ [Tk_no]).map ccd)))) (by rw [ptc_one co Tk_no ccd_no, sz_one co Tk_no]) ?_
      refine v_iconst (v := 1) dX4_parseSingle_88 (by decide) ?_
      exact v_zret hr dX4_parseSingle_89 (by first | rfl | exact nbq) (by (rw [sng_not h2, notR_yes hc]; exact pps_some))
    · -- not ((sngR tx fd 0 (az + 1)).2.isSome = true)
      refine v_iconst (v := 0) dX4_parseSingle_80 (by decide) ?_
      exact v_zret hr dX4_parseSingle_81 (by first | rfl | exact nbq) (by (rw [sng_not h2, notR_no h9]; exact pps_none))
  · refine v_iload_n dX4_parseSingle_11 rfl 0 rfl ?_
    refine v_bipush (v := 40) dX4_parseSingle_12 (by decide) ?_
    refine v_icmp_eq (tgt := 22) dX4_parseSingle_14 (by decide) (fun h11 => ?_) (fun h11 => ?_)
    · refine v_iload_n dX4_parseSingle_22 rfl 2 rfl ?_
      refine v_iconst (v := 4) dX4_parseSingle_23 (by decide) ?_
      refine v_icmp_lt (tgt := 29) dX4_parseSingle_24 (by decide) (fun _ => ?_) (fun h12 => by first | exact absurd h12 (by decide) | exact absurd (by decide) h12)
      refine v_aload_n dX4_parseSingle_29 rfl 1 rfl ?_
      refine v_dup dX4_parseSingle_30 rfl ?_
      refine v_get (v := .int ((rI I (nI az) (nI sz) nu fa st) 15 1)) fa_X4_20 dX4_parseSingle_31 rfl (by decide) (ltn rfl) rfl ?_
      refine v_is (y := nI az) (by rfl) ?_
      refine v_iconst (v := 1) dX4_parseSingle_34 (by decide) ?_
      refine v_iadd dX4_parseSingle_35 ?_
      refine v_is (nx_add rfl rfl) ?_
      refine v_puti pa_X4_20 dX4_parseSingle_36 rfl (by decide) (ltn rfl) (by show 1 < 7; decide) rfl ?_
      refine v_I (I2 := (rI I (nI (az + 1)) (nI sz) nu fa st)) (by first | rfl | (simp only [rI_a, rI_sc, rI_nu, rI_fa, rI_st]; done)) ?_
      have hlt := nxt_eq h11 (by decide)
      refine v_iload_n dX4_parseSingle_39 rfl 0 rfl ?_
      refine v_bipush (v := 40) dX4_parseSingle_40 (by decide) ?_
      refine v_icmp_ne (tgt := 70) dX4_parseSingle_42 (by decide) (fun hx => absurd h11 hx) (fun _ => ?_)
      refine v_aload_n dX4_parseSingle_45 rfl 1 rfl ?_
      refine v_iload_n dX4_parseSingle_46 rfl 2 rfl ?_
      refine v_iconst (v := 1) dX4_parseSingle_47 (by decide) ?_
      refine v_iadd dX4_parseSingle_48 ?_
      refine v_is (nx_add rfl rfl) ?_
      refine v_callPs (As := [.int (nI (3 + 1))]) (rest := []) lk_X4_68 (c_ei_0 (az + 1) sz nu fa st fd hf hfd tx htx (by omega) (by omega)) dX4_parseSingle_49 rfl (ltn rfl) rfl rfl (Nat.le_of_ble_eq_true rfl) (by decide) (fun s14 ng15 tg16 ho17 => ?_)
      refine v_ifb_eq (tgt := 68) dX4_parseSingle_52 (by decide) (fun h18 => ?_) (fun h18 => ?_)
      · -- not ((eiL tx fd (sngR tx fd 0) 100 false false (az + 1) []).2.isSome = true)
        refine v_iconst (v := 0) dX4_parseSingle_68 (by decide) ?_
        exact v_zret hr dX4_parseSingle_69 (by first | rfl | exact nbq) (by (rw [sng_par h11, parR_no h18]; exact pps_none))
      · -- ((eiL tx fd (sngR tx fd 0) 100 false false (az + 1) []).2.isSome = true)
        obtain ⟨co, hc⟩ := Option.isSome_iff_exists.mp h18
        obtain ⟨rfl, rfl⟩ := ho17 co hc
        have hq2 := eiL_in (tx := tx) (sng_in (tx := tx) (fd := fd) 0) 100 false false (az + 1) [] (by omega)
        refine v_aload_n dX4_parseSingle_55 rfl 1 rfl ?_
        refine v_bipush (v := 41) dX4_parseSingle_56 (by decide) ?_
        refine v_callVi (As := [.int 41]) (rest := []) lk_X4_33 (c_X4_takeSign 41 ((eiL tx fd (sngR tx fd 0) 100 false false (az + 1) []).1) (sz + co.length) ng15 fa (putL st sz (co.map ccd)) fd hf hfd tx htx (by omega)) dX4_parseSingle_58 rfl (ltn rfl) rfl rfl (Nat.le_of_ble_eq_true rfl) (by decide) ?_
        refine v_ifb_eq (tgt := 68) dX4_parseSingle_61 (by decide) (fun h19 => ?_) (fun h19 => ?_)
        · -- not (nxt tx fd ((eiL tx fd (sngR tx fd 0) 100 false false (az + 1) []).1) = 41)
          refine v_I (I2 := (rI I (nI (eiL tx fd (sngR tx fd 0) 100 false false (az + 1) []).1) (nI (sz + co.length)) ng15 fa (putL st sz (co.map ccd)))) (by rw [ifc_f h19]) ?_
          refine v_iconst (v := 0) dX4_parseSingle_68 (by decide) ?_
          exact v_zret hr dX4_parseSingle_69 (by first | rfl | exact nbq) (by (rw [sng_par h11, parR_f hc h19]; exact pps_none))
        · -- (nxt tx fd ((eiL tx fd (sngR tx fd 0) 100 false false (az + 1) []).1) = 41)
          refine v_I (I2 := (rI I (nI ((eiL tx fd (sngR tx fd 0) 100 false false (az + 1) []).1 + 1)) (nI (sz + co.length)) ng15 fa (putL st sz (co.map ccd)))) (by rw [ifc_t h19]) ?_
          refine v_iconst (v := 1) dX4_parseSingle_64 (by decide) ?_
          refine v_goto (tgt := 69) dX4_parseSingle_65 (by decide) ?_
          exact v_zret hr dX4_parseSingle_69 (by first | rfl | exact nbq) (by (rw [sng_par h11, parR_t hc h19]; exact pps_some))
    · refine v_aload_n dX4_parseSingle_17 rfl 1 rfl ?_
      refine v_callVi (As := []) (rest := []) lk_X4_79 (c_X4_parseTest az sz nu fa st fd hf hfd tx htx (by omega) (by omega)) dX4_parseSingle_18 rfl (ltn rfl) rfl rfl (Nat.le_of_ble_eq_true rfl) (by decide) ?_
      exact v_zret hr dX4_parseSingle_21 (by first | rfl | exact nbq) (by (rw [sngT h2 h11]; exact pps_tst))
set_option maxRecDepth 100000 in
set_option maxHeartbeats 2000000 in
theorem c_ei_1 {g : Gl} {I : Ty} {L : TL} {na nt ni m : Nat} {nl : Nat → Nat}  (az sz : Nat) (nu fa : Int32) (st : Nat → Int32) (fd : Nat) (hf : fd ≤ 100) (hfd : I 15 0 = nI fd) (tx : Nat → Int32) (htx : I 16 = tx) (ha : az ≤ fd) (hs : sz ≤ az) : Ct g yX4_parseEither cX4_parseEither 5 (some .boolean) 9 0 0 [.ref (g.1 + 15), .int 3] (rI I (nI az) (nI sz) nu fa st) L (RT na nt ni) (NT nl) (NB + m) (Pps I L (RT na nt ni) (NT nl) (NB + m) sz fa st (eiL tx fd (sngR tx fd 1) 100 false false az [])) := by
  refine ct_of (by decide +kernel) (Nat.le_of_ble_eq_true rfl) (fun F hnm hr => ?_)
  clear hnm
  show V g F cX4_parseEither RX4 5 9 0 [(0, .ref (g.1 + 15)), (1, .int 3)] [] (rI I (nI az) (nI sz) nu fa st) L (RT na nt ni) (NT nl) (NB + m) 0 0
  have b2t : b2n true = 1 := rfl
  have b2f : b2n false = 0 := rfl
  have key : ∀ kz, ∀ (iz : Nat) (ei bo : Bool) (ag : Nat) (out : List Tk) (ng : Int32), iz + kz = 100 → sz + out.length + b2n bo + b2n ei ≤ ag → ag ≤ fd → eiL tx fd (sngR tx fd 1) kz ei bo ag out = eiL tx fd (sngR tx fd 1) 100 false false az [] → V g F cX4_parseEither RX4 5 9 7 [(4, .int (nI iz)), (3, .int (bb bo)), (2, .int (bb ei)), (0, .ref (g.1 + 15)), (1, .int 3)] [] (rI I (nI ag) (nI (sz + out.length)) ng fa (putL st sz (out.map ccd))) L (RT na nt ni) (NT nl) (NB + m) 0 0 := by
    intro kz
    induction kz with
    | zero =>
      intro iz ei bo ag out ng hik hinv hag hZ
      refine v_iload dX4_parseEither_7 0 rfl ?_
      refine v_bipush (v := 100) dX4_parseEither_9 (by decide) ?_
      refine v_icmp_geN (a := iz) (b := 100) (tgt := 77) dX4_parseEither_11 (by decide) rfl rfl (by omega) (by omega) (fun h1 => ?_) (fun h => by exfalso; omega)
      refine v_iconst (v := 0) dX4_parseEither_77 (by decide) ?_
      exact v_zret hr dX4_parseEither_78 (by first | rfl | exact nbq) (by (rw [← hZ]; exact pps_none))
    | succ kz ih =>
      intro iz ei bo ag out ng hik hinv hag hZ
      refine v_iload dX4_parseEither_7 0 rfl ?_
      refine v_bipush (v := 100) dX4_parseEither_9 (by decide) ?_
      refine v_icmp_geN (a := iz) (b := 100) (tgt := 77) dX4_parseEither_11 (by decide) rfl rfl (by omega) (by omega) (fun h => by exfalso; omega) (fun h2 => ?_)
      refine v_aload_n dX4_parseEither_14 rfl 3 rfl ?_
      refine v_iload_n dX4_parseEither_15 rfl 4 rfl ?_
      refine v_callPs (As := [.int 3]) (rest := []) lk_X4_76 (c_sng_1 ag (sz + out.length) ng fa (putL st sz (out.map ccd)) fd hf hfd tx htx (by omega) (by omega)) dX4_parseEither_16 rfl (ltn rfl) rfl rfl (Nat.le_of_ble_eq_true rfl) (by decide) (fun s3 ng4 tg5 ho6 => ?_)
      refine v_ifb_ne (tgt := 24) dX4_parseEither_19 (by decide) (fun h7 => ?_) (fun h7 => ?_)
      · -- ((sngR tx fd 1 ag).2.isSome = true)
        obtain ⟨co, hc⟩ := Option.isSome_iff_exists.mp h7
        obtain ⟨rfl, rfl⟩ := ho6 co hc
        have hq1 := sng_len 1 ag (sngR tx fd 1 ag).1 co (Prod.ext rfl hc)
        have hq2 := sng_in (tx := tx) (fd := fd) 1 ag hag
        have hl2 : (out ++ co).length = out.length + co.length := List.length_append
        refine v_I (I2 := (rI I (nI (sngR tx fd 1 ag).1) (nI (sz + (out ++ co).length)) ng4 fa (putL st sz ((out ++ co).map ccd)))) (by rw [ptc_app, sz_app]) ?_
        cases bo with
        | false =>
          show V g F cX4_parseEither RX4 5 9 24 [(4, .int (nI iz)), (3, .int 0), (2, .int (bb ei)), (0, .ref (g.1 + 15)), (1, .int 3)] [] (rI I (nI (sngR tx fd 1 ag).1) (nI (sz + (out ++ co).length)) ng4 fa (putL st sz ((out ++ co).map ccd))) L (RT na nt ni) (NT nl) (NB + m) 0 0
          refine v_iload_n dX4_parseEither_24 rfl 1 rfl ?_
          refine v_if_eq (tgt := 34) dX4_parseEither_25 (by decide) (fun _ => ?_) (fun h8 => by first | exact absurd h8 (by decide) | exact absurd (by decide) h8)
          refine v_I (I2 := (rI I (nI (sngR tx fd 1 ag).1) (nI (sz + ((out ++ co) ++ anL false).length)) ng4 fa (putL st sz (((out ++ co) ++ anL false).map ccd)))) (by rw [show anL false = [] from rfl, List.append_nil]) ?_
          have hl3 : ((out ++ co) ++ anL false).length = out.length + co.length + b2n false := by rw [List.length_append, List.length_append, anL_len]
          refine v_aload_n dX4_parseEither_34 rfl 3 rfl ?_
          refine v_bipush (v := 38) dX4_parseEither_35 (by decide) ?_
          refine v_callVi (As := [.int 38]) (rest := []) lk_X4_33 (c_X4_takeSign 38 ((sngR tx fd 1 ag).1) (sz + ((out ++ co) ++ anL false).length) ng4 fa (putL st sz (((out ++ co) ++ anL false).map ccd)) fd hf hfd tx htx (by omega)) dX4_parseEither_37 rfl (ltn rfl) rfl rfl (Nat.le_of_ble_eq_true rfl) (by decide) ?_
          refine v_istore_n (lv2 := [(3, .int (bq (nxt tx fd ((sngR tx fd 1 ag).1) = 38))), (4, .int (nI iz)), (2, .int (bb ei)), (0, .ref (g.1 + 15)), (1, .int 3)]) dX4_parseEither_40 rfl (by decide) rfl ?_
          refine v_iload_n dX4_parseEither_41 rfl 0 rfl ?_
          refine v_ifb_eq (tgt := 48) dX4_parseEither_42 (by decide) (fun h9 => ?_) (fun h9 => ?_)
          · -- not (nxt tx fd ((sngR tx fd 1 ag).1) = 38)
            refine v_I (I2 := (rI I (nI (sngR tx fd 1 ag).1) (nI (sz + ((out ++ co) ++ anL false).length)) ng4 fa (putL st sz (((out ++ co) ++ anL false).map ccd)))) (by rw [ifc_f h9]) ?_
            cases ei with
            | false =>
              show V g F cX4_parseEither RX4 5 9 48 [(3, .int (bq (nxt tx fd ((sngR tx fd 1 ag).1) = 38))), (4, .int (nI iz)), (2, .int 0), (0, .ref (g.1 + 15)), (1, .int 3)] [] (rI I (nI (sngR tx fd 1 ag).1) (nI (sz + ((out ++ co) ++ anL false).length)) ng4 fa (putL st sz (((out ++ co) ++ anL false).map ccd))) L (RT na nt ni) (NT nl) (NB + m) 0 0
              refine v_iload_n dX4_parseEither_48 rfl 2 rfl ?_
              refine v_if_eq (tgt := 58) dX4_parseEither_49 (by decide) (fun _ => ?_) (fun h10 => by first | exact absurd h10 (by decide) | exact absurd (by decide) h10)
              refine v_I (I2 := (rI I (nI (sngR tx fd 1 ag).1) (nI (sz + (((out ++ co) ++ anL false) ++ eoL false).length)) ng4 fa (putL st sz ((((out ++ co) ++ anL false) ++ eoL false).map ccd)))) (by rw [show eoL false = [] from rfl, List.append_nil]) ?_
              have hl4 : (((out ++ co) ++ anL false) ++ eoL false).length = out.length + co.length + b2n false + b2n false := by rw [List.length_append, hl3, eoL_len]
              refine v_aload_n dX4_parseEither_58 rfl 3 rfl ?_
              refine v_bipush (v := 124) dX4_parseEither_59 (by decide) ?_
              refine v_callVi (As := [.int 124]) (rest := []) lk_X4_33 (c_X4_takeSign 124 ((sngR tx fd 1 ag).1) (sz + (((out ++ co) ++ anL false) ++ eoL false).length) ng4 fa (putL st sz ((((out ++ co) ++ anL false) ++ eoL false).map ccd)) fd hf hfd tx htx (by omega)) dX4_parseEither_61 rfl (ltn rfl) rfl rfl (Nat.le_of_ble_eq_true rfl) (by decide) ?_
              refine v_istore_n (lv2 := [(2, .int (bq (nxt tx fd ((sngR tx fd 1 ag).1) = 124))), (3, .int (bq (nxt tx fd ((sngR tx fd 1 ag).1) = 38))), (4, .int (nI iz)), (0, .ref (g.1 + 15)), (1, .int 3)]) dX4_parseEither_64 rfl (by decide) rfl ?_
              refine v_iload_n dX4_parseEither_65 rfl 0 rfl ?_
              refine v_ifb_ne (tgt := 71) dX4_parseEither_66 (by decide) (fun h11 => ?_) (fun h11 => ?_)
              · -- (nxt tx fd ((sngR tx fd 1 ag).1) = 124)
                have hlq := nxt_eq h11 (by decide)
                refine v_I (I2 := (rI I (nI ((sngR tx fd 1 ag).1 + 1)) (nI (sz + (((out ++ co) ++ anL false) ++ eoL false).length)) ng4 fa (putL st sz ((((out ++ co) ++ anL false) ++ eoL false).map ccd)))) (by rw [ifc_t h11]) ?_
                refine v_inc (v := nI (iz + 1)) (lv2 := [(4, .int (nI (iz + 1))), (2, .int (bq (nxt tx fd ((sngR tx fd 1 ag).1) = 124))), (3, .int (bq (nxt tx fd ((sngR tx fd 1 ag).1) = 38))), (0, .ref (g.1 + 15)), (1, .int 3)]) dX4_parseEither_71 2 rfl (nx_inc rfl) (by decide) rfl ?_
                refine v_goto (tgt := 7) dX4_parseEither_74 (by decide) ?_
                refine v_sub (lv2 := [(4, .int (nI (iz + 1))), (3, .int (bq (nxt tx fd ((sngR tx fd 1 ag).1) = 38))), (2, .int (bq (nxt tx fd ((sngR tx fd 1 ag).1) = 124))), (0, .ref (g.1 + 15)), (1, .int 3)]) [0, 2, 1, 3, 4] rfl ?_
                refine v_lv (lv2 := [(4, .int (nI (iz + 1))), (3, .int (bb false)), (2, .int (bb true)), (0, .ref (g.1 + 15)), (1, .int 3)]) (by rw [bq_t h11, bq_f h9]; rfl) ?_
                exact ih (iz + 1) true false _ _ _ (by omega) (by rw [show b2n true = 1 from rfl, show b2n false = 0 from rfl]; omega) (by omega) (by rw [← hZ, eiL_eo hc h9 h11])
              · -- not (nxt tx fd ((sngR tx fd 1 ag).1) = 124)
                refine v_I (I2 := (rI I (nI (sngR tx fd 1 ag).1) (nI (sz + (((out ++ co) ++ anL false) ++ eoL false).length)) ng4 fa (putL st sz ((((out ++ co) ++ anL false) ++ eoL false).map ccd)))) (by rw [ifc_f h11]) ?_
                refine v_iconst (v := 1) dX4_parseEither_69 (by decide) ?_
                exact v_zret hr dX4_parseEither_70 (by first | rfl | exact nbq) (by (rw [← hZ, eiL_end hc h9 h11]; exact pps_some))
            | true =>
              show V g F cX4_parseEither RX4 5 9 48 [(3, .int (bq (nxt tx fd ((sngR tx fd 1 ag).1) = 38))), (4, .int (nI iz)), (2, .int 1), (0, .ref (g.1 + 15)), (1, .int 3)] [] (rI I (nI (sngR tx fd 1 ag).1) (nI (sz + ((out ++ co) ++ anL false).length)) ng4 fa (putL st sz (((out ++ co) ++ anL false).map ccd))) L (RT na nt ni) (NT nl) (NB + m) 0 0
              refine v_iload_n dX4_parseEither_48 rfl 2 rfl ?_
              refine v_if_eq (tgt := 58) dX4_parseEither_49 (by decide) (fun h12 => by first | exact absurd h12 (by decide) | exact absurd (by decide) h12) (fun _ => ?_)
              refine v_aload_n dX4_parseEither_52 rfl 3 rfl ?_
              refine v_iconst (v := 2) dX4_parseEither_53 (by decide) ?_
              refine v_iconst (v := 0) dX4_parseEither_54 (by decide) ?_
              refine v_callVv (As := [.int 2, .int 0]) (rest := []) lk_X4_72 (c_X4_addStep 2 0 ((sngR tx fd 1 ag).1) (sz + ((out ++ co) ++ anL false).length) ng4 fa (putL st sz (((out ++ co) ++ anL false).map ccd)) fd hf hfd tx htx (by omega)) dX4_parseEither_55 rfl (ltn rfl) rfl rfl (Nat.le_of_ble_eq_true rfl) (by decide) ?_
              refine v_I (I2 := (rI I (nI (sngR tx fd 1 ag).1) (nI (sz + (((out ++ co) ++ anL false) ++ eoL true).length)) ng4 fa (putL st sz ((((out ++ co) ++ anL false) ++ eoL true).map ccd)))) (by rw [ptc_one _ Tk_eo ccd_eo, sz_one _ Tk_eo]; rfl) ?_
              have hl4 : (((out ++ co) ++ anL false) ++ eoL true).length = out.length + co.length + b2n false + b2n true := by rw [List.length_append, hl3, eoL_len]
              refine v_aload_n dX4_parseEither_58 rfl 3 rfl ?_
              refine v_bipush (v := 124) dX4_parseEither_59 (by decide) ?_
              refine v_callVi (As := [.int 124]) (rest := []) lk_X4_33 (c_X4_takeSign 124 ((sngR tx fd 1 ag).1) (sz + (((out ++ co) ++ anL false) ++ eoL true).length) ng4 fa (putL st sz ((((out ++ co) ++ anL false) ++ eoL true).map ccd)) fd hf hfd tx htx (by omega)) dX4_parseEither_61 rfl (ltn rfl) rfl rfl (Nat.le_of_ble_eq_true rfl) (by decide) ?_
              refine v_istore_n (lv2 := [(2, .int (bq (nxt tx fd ((sngR tx fd 1 ag).1) = 124))), (3, .int (bq (nxt tx fd ((sngR tx fd 1 ag).1) = 38))), (4, .int (nI iz)), (0, .ref (g.1 + 15)), (1, .int 3)]) dX4_parseEither_64 rfl (by decide) rfl ?_
              refine v_iload_n dX4_parseEither_65 rfl 0 rfl ?_
              refine v_ifb_ne (tgt := 71) dX4_parseEither_66 (by decide) (fun h13 => ?_) (fun h13 => ?_)
              · -- (nxt tx fd ((sngR tx fd 1 ag).1) = 124)
                have hlq := nxt_eq h13 (by decide)
                refine v_I (I2 := (rI I (nI ((sngR tx fd 1 ag).1 + 1)) (nI (sz + (((out ++ co) ++ anL false) ++ eoL true).length)) ng4 fa (putL st sz ((((out ++ co) ++ anL false) ++ eoL true).map ccd)))) (by rw [ifc_t h13]) ?_
                refine v_inc (v := nI (iz + 1)) (lv2 := [(4, .int (nI (iz + 1))), (2, .int (bq (nxt tx fd ((sngR tx fd 1 ag).1) = 124))), (3, .int (bq (nxt tx fd ((sngR tx fd 1 ag).1) = 38))), (0, .ref (g.1 + 15)), (1, .int 3)]) dX4_parseEither_71 2 rfl (nx_inc rfl) (by decide) rfl ?_
                refine v_goto (tgt := 7) dX4_parseEither_74 (by decide) ?_
                refine v_sub (lv2 := [(4, .int (nI (iz + 1))), (3, .int (bq (nxt tx fd ((sngR tx fd 1 ag).1) = 38))), (2, .int (bq (nxt tx fd ((sngR tx fd 1 ag).1) = 124))), (0, .ref (g.1 + 15)), (1, .int 3)]) [0, 2, 1, 3, 4] rfl ?_
                refine v_lv (lv2 := [(4, .int (nI (iz + 1))), (3, .int (bb false)), (2, .int (bb true)), (0, .ref (g.1 + 15)), (1, .int 3)]) (by rw [bq_t h13, bq_f h9]; rfl) ?_
                exact ih (iz + 1) true false _ _ _ (by omega) (by rw [show b2n true = 1 from rfl, show b2n false = 0 from rfl]; omega) (by omega) (by rw [← hZ, eiL_eo hc h9 h13])
              · -- not (nxt tx fd ((sngR tx fd 1 ag).1) = 124)
                refine v_I (I2 := (rI I (nI (sngR tx fd 1 ag).1) (nI (sz + (((out ++ co) ++ anL false) ++ eoL true).length)) ng4 fa (putL st sz ((((out ++ co) ++ anL false) ++ eoL true).map ccd)))) (by rw [ifc_f h13]) ?_
                refine v_iconst (v := 1) dX4_parseEither_69 (by decide) ?_
                exact v_zret hr dX4_parseEither_70 (by first | rfl | exact nbq) (by (rw [← hZ, eiL_end hc h9 h13]; exact pps_some))
          · -- (nxt tx fd ((sngR tx fd 1 ag).1) = 38)
            have hlq := nxt_eq h9 (by decide)
            refine v_I (I2 := (rI I (nI ((sngR tx fd 1 ag).1 + 1)) (nI (sz + ((out ++ co) ++ anL false).length)) ng4 fa (putL st sz (((out ++ co) ++ anL false).map ccd)))) (by rw [ifc_t h9]) ?_
            refine v_goto (tgt := 71) dX4_parseEither_45 (by decide) ?_
            refine v_inc (v := nI (iz + 1)) (lv2 := [(4, .int (nI (iz + 1))), (3, .int (bq (nxt tx fd ((sngR tx fd 1 ag).1) = 38))), (2, .int (bb ei)), (0, .ref (g.1 + 15)), (1, .int 3)]) dX4_parseEither_71 1 rfl (nx_inc rfl) (by decide) rfl ?_
            refine v_goto (tgt := 7) dX4_parseEither_74 (by decide) ?_
            refine v_lv (lv2 := [(4, .int (nI (iz + 1))), (3, .int (bb true)), (2, .int (bb ei)), (0, .ref (g.1 + 15)), (1, .int 3)]) (by rw [bq_t h9]; rfl) ?_
            exact ih (iz + 1) ei true _ _ _ (by omega) (by rw [show b2n true = 1 from rfl]; omega) (by omega) (by rw [← hZ, eiL_an hc h9])
        | true =>
          show V g F cX4_parseEither RX4 5 9 24 [(4, .int (nI iz)), (3, .int 1), (2, .int (bb ei)), (0, .ref (g.1 + 15)), (1, .int 3)] [] (rI I (nI (sngR tx fd 1 ag).1) (nI (sz + (out ++ co).length)) ng4 fa (putL st sz ((out ++ co).map ccd))) L (RT na nt ni) (NT nl) (NB + m) 0 0
          refine v_iload_n dX4_parseEither_24 rfl 1 rfl ?_
          refine v_if_eq (tgt := 34) dX4_parseEither_25 (by decide) (fun h14 => by first | exact absurd h14 (by decide) | exact absurd (by decide) h14) (fun _ => ?_)
          refine v_aload_n dX4_parseEither_28 rfl 3 rfl ?_
          refine v_iconst (v := 1) dX4_parseEither_29 (by decide) ?_
          refine v_iconst (v := 0) dX4_parseEither_30 (by decide) ?_
          refine v_callVv (As := [.int 1, .int 0]) (rest := []) lk_X4_72 (c_X4_addStep 1 0 ((sngR tx fd 1 ag).1) (sz + (out ++ co).length) ng4 fa (putL st sz ((out ++ co).map ccd)) fd hf hfd tx htx (by omega)) dX4_parseEither_31 rfl (ltn rfl) rfl rfl (Nat.le_of_ble_eq_true rfl) (by decide) ?_
          refine v_I (I2 := (rI I (nI (sngR tx fd 1 ag).1) (nI (sz + ((out ++ co) ++ anL true).length)) ng4 fa (putL st sz (((out ++ co) ++ anL true).map ccd)))) (by rw [ptc_one _ Tk_an ccd_an, sz_one _ Tk_an]; rfl) ?_
          have hl3 : ((out ++ co) ++ anL true).length = out.length + co.length + b2n true := by rw [List.length_append, List.length_append, anL_len]
          refine v_aload_n dX4_parseEither_34 rfl 3 rfl ?_
          refine v_bipush (v := 38) dX4_parseEither_35 (by decide) ?_
          refine v_callVi (As := [.int 38]) (rest := []) lk_X4_33 (c_X4_takeSign 38 ((sngR tx fd 1 ag).1) (sz + ((out ++ co) ++ anL true).length) ng4 fa (putL st sz (((out ++ co) ++ anL true).map ccd)) fd hf hfd tx htx (by omega)) dX4_parseEither_37 rfl (ltn rfl) rfl rfl (Nat.le_of_ble_eq_true rfl) (by decide) ?_
          refine v_istore_n (lv2 := [(3, .int (bq (nxt tx fd ((sngR tx fd 1 ag).1) = 38))), (4, .int (nI iz)), (2, .int (bb ei)), (0, .ref (g.1 + 15)), (1, .int 3)]) dX4_parseEither_40 rfl (by decide) rfl ?_
          refine v_iload_n dX4_parseEither_41 rfl 0 rfl ?_
          refine v_ifb_eq (tgt := 48) dX4_parseEither_42 (by decide) (fun h15 => ?_) (fun h15 => ?_)
          · -- not (nxt tx fd ((sngR tx fd 1 ag).1) = 38)
            refine v_I (I2 := (rI I (nI (sngR tx fd 1 ag).1) (nI (sz + ((out ++ co) ++ anL true).length)) ng4 fa (putL st sz (((out ++ co) ++ anL true).map ccd)))) (by rw [ifc_f h15]) ?_
            cases ei with
            | false =>
              show V g F cX4_parseEither RX4 5 9 48 [(3, .int (bq (nxt tx fd ((sngR tx fd 1 ag).1) = 38))), (4, .int (nI iz)), (2, .int 0), (0, .ref (g.1 + 15)), (1, .int 3)] [] (rI I (nI (sngR tx fd 1 ag).1) (nI (sz + ((out ++ co) ++ anL true).length)) ng4 fa (putL st sz (((out ++ co) ++ anL true).map ccd))) L (RT na nt ni) (NT nl) (NB + m) 0 0
              refine v_iload_n dX4_parseEither_48 rfl 2 rfl ?_
              refine v_if_eq (tgt := 58) dX4_parseEither_49 (by decide) (fun _ => ?_) (fun h16 => by first | exact absurd h16 (by decide) | exact absurd (by decide) h16)
              refine v_I (I2 := (rI I (nI (sngR tx fd 1 ag).1) (nI (sz + (((out ++ co) ++ anL true) ++ eoL false).length)) ng4 fa (putL st sz ((((out ++ co) ++ anL true) ++ eoL false).map ccd)))) (by rw [show eoL false = [] from rfl, List.append_nil]) ?_
              have hl4 : (((out ++ co) ++ anL true) ++ eoL false).length = out.length + co.length + b2n true + b2n false := by rw [List.length_append, hl3, eoL_len]
              refine v_aload_n dX4_parseEither_58 rfl 3 rfl ?_
              refine v_bipush (v := 124) dX4_parseEither_59 (by decide) ?_
              refine v_callVi (As := [.int 124]) (rest := []) lk_X4_33 (c_X4_takeSign 124 ((sngR tx fd 1 ag).1) (sz + (((out ++ co) ++ anL true) ++ eoL false).length) ng4 fa (putL st sz ((((out ++ co) ++ anL true) ++ eoL false).map ccd)) fd hf hfd tx htx (by omega)) dX4_parseEither_61 rfl (ltn rfl) rfl rfl (Nat.le_of_ble_eq_true rfl) (by decide) ?_
              refine v_istore_n (lv2 := [(2, .int (bq (nxt tx fd ((sngR tx fd 1 ag).1) = 124))), (3, .int (bq (nxt tx fd ((sngR tx fd 1 ag).1) = 38))), (4, .int (nI iz)), (0, .ref (g.1 + 15)), (1, .int 3)]) dX4_parseEither_64 rfl (by decide) rfl ?_
              refine v_iload_n dX4_parseEither_65 rfl 0 rfl ?_
              refine v_ifb_ne (tgt := 71) dX4_parseEither_66 (by decide) (fun h17 => ?_) (fun h17 => ?_)
              · -- (nxt tx fd ((sngR tx fd 1 ag).1) = 124)
                have hlq := nxt_eq h17 (by decide)
                refine v_I (I2 := (rI I (nI ((sngR tx fd 1 ag).1 + 1)) (nI (sz + (((out ++ co) ++ anL true) ++ eoL false).length)) ng4 fa (putL st sz ((((out ++ co) ++ anL true) ++ eoL false).map ccd)))) (by rw [ifc_t h17]) ?_
                refine v_inc (v := nI (iz + 1)) (lv2 := [(4, .int (nI (iz + 1))), (2, .int (bq (nxt tx fd ((sngR tx fd 1 ag).1) = 124))), (3, .int (bq (nxt tx fd ((sngR tx fd 1 ag).1) = 38))), (0, .ref (g.1 + 15)), (1, .int 3)]) dX4_parseEither_71 2 rfl (nx_inc rfl) (by decide) rfl ?_
                refine v_goto (tgt := 7) dX4_parseEither_74 (by decide) ?_
                refine v_sub (lv2 := [(4, .int (nI (iz + 1))), (3, .int (bq (nxt tx fd ((sngR tx fd 1 ag).1) = 38))), (2, .int (bq (nxt tx fd ((sngR tx fd 1 ag).1) = 124))), (0, .ref (g.1 + 15)), (1, .int 3)]) [0, 2, 1, 3, 4] rfl ?_
                refine v_lv (lv2 := [(4, .int (nI (iz + 1))), (3, .int (bb false)), (2, .int (bb true)), (0, .ref (g.1 + 15)), (1, .int 3)]) (by rw [bq_t h17, bq_f h15]; rfl) ?_
                exact ih (iz + 1) true false _ _ _ (by omega) (by rw [show b2n true = 1 from rfl, show b2n false = 0 from rfl]; omega) (by omega) (by rw [← hZ, eiL_eo hc h15 h17])
              · -- not (nxt tx fd ((sngR tx fd 1 ag).1) = 124)
                refine v_I (I2 := (rI I (nI (sngR tx fd 1 ag).1) (nI (sz + (((out ++ co) ++ anL true) ++ eoL false).length)) ng4 fa (putL st sz ((((out ++ co) ++ anL true) ++ eoL false).map ccd)))) (by rw [ifc_f h17]) ?_
                refine v_iconst (v := 1) dX4_parseEither_69 (by decide) ?_
                exact v_zret hr dX4_parseEither_70 (by first | rfl | exact nbq) (by (rw [← hZ, eiL_end hc h15 h17]; exact pps_some))
            | true =>
              show V g F cX4_parseEither RX4 5 9 48 [(3, .int (bq (nxt tx fd ((sngR tx fd 1 ag).1) = 38))), (4, .int (nI iz)), (2, .int 1), (0, .ref (g.1 + 15)), (1, .int 3)] [] (rI I (nI (sngR tx fd 1 ag).1) (nI (sz + ((out ++ co) ++ anL true).length)) ng4 fa (putL st sz (((out ++ co) ++ anL true).map ccd))) L (RT na nt ni) (NT nl) (NB + m) 0 0
              refine v_iload_n dX4_parseEither_48 rfl 2 rfl ?_
              refine v_if_eq (tgt := 58) dX4_parseEither_49 (by decide) (fun h18 => by first | exact absurd h18 (by decide) | exact absurd (by decide) h18) (fun _ => ?_)
              refine v_aload_n dX4_parseEither_52 rfl 3 rfl ?_
              refine v_iconst (v := 2) dX4_parseEither_53 (by decide) ?_
              refine v_iconst (v := 0) dX4_parseEither_54 (by decide) ?_
              refine v_callVv (As := [.int 2, .int 0]) (rest := []) lk_X4_72 (c_X4_addStep 2 0 ((sngR tx fd 1 ag).1) (sz + ((out ++ co) ++ anL true).length) ng4 fa (putL st sz (((out ++ co) ++ anL true).map ccd)) fd hf hfd tx htx (by omega)) dX4_parseEither_55 rfl (ltn rfl) rfl rfl (Nat.le_of_ble_eq_true rfl) (by decide) ?_
              refine v_I (I2 := (rI I (nI (sngR tx fd 1 ag).1) (nI (sz + (((out ++ co) ++ anL true) ++ eoL true).length)) ng4 fa (putL st sz ((((out ++ co) ++ anL true) ++ eoL true).map ccd)))) (by rw [ptc_one _ Tk_eo ccd_eo, sz_one _ Tk_eo]; rfl) ?_
              have hl4 : (((out ++ co) ++ anL true) ++ eoL true).length = out.length + co.length + b2n true + b2n true := by rw [List.length_append, hl3, eoL_len]
              refine v_aload_n dX4_parseEither_58 rfl 3 rfl ?_
              refine v_bipush (v := 124) dX4_parseEither_59 (by decide) ?_
              refine v_callVi (As := [.int 124]) (rest := []) lk_X4_33 (c_X4_takeSign 124 ((sngR tx fd 1 ag).1) (sz + (((out ++ co) ++ anL true) ++ eoL true).length) ng4 fa (putL st sz ((((out ++ co) ++ anL true) ++ eoL true).map ccd)) fd hf hfd tx htx (by omega)) dX4_parseEither_61 rfl (ltn rfl) rfl rfl (Nat.le_of_ble_eq_true rfl) (by decide) ?_
              refine v_istore_n (lv2 := [(2, .int (bq (nxt tx fd ((sngR tx fd 1 ag).1) = 124))), (3, .int (bq (nxt tx fd ((sngR tx fd 1 ag).1) = 38))), (4, .int (nI iz)), (0, .ref (g.1 + 15)), (1, .int 3)]) dX4_parseEither_64 rfl (by decide) rfl ?_
              refine v_iload_n dX4_parseEither_65 rfl 0 rfl ?_
              refine v_ifb_ne (tgt := 71) dX4_parseEither_66 (by decide) (fun h19 => ?_) (fun h19 => ?_)
              · -- (nxt tx fd ((sngR tx fd 1 ag).1) = 124)
                have hlq := nxt_eq h19 (by decide)
                refine v_I (I2 := (rI I (nI ((sngR tx fd 1 ag).1 + 1)) (nI (sz + (((out ++ co) ++ anL true) ++ eoL true).length)) ng4 fa (putL st sz ((((out ++ co) ++ anL true) ++ eoL true).map ccd)))) (by rw [ifc_t h19]) ?_
                refine v_inc (v := nI (iz + 1)) (lv2 := [(4, .int (nI (iz + 1))), (2, .int (bq (nxt tx fd ((sngR tx fd 1 ag).1) = 124))), (3, .int (bq (nxt tx fd ((sngR tx fd 1 ag).1) = 38))), (0, .ref (g.1 + 15)), (1, .int 3)]) dX4_parseEither_71 2 rfl (nx_inc rfl) (by decide) rfl ?_
                refine v_goto (tgt := 7) dX4_parseEither_74 (by decide) ?_
                refine v_sub (lv2 := [(4, .int (nI (iz + 1))), (3, .int (bq (nxt tx fd ((sngR tx fd 1 ag).1) = 38))), (2, .int (bq (nxt tx fd ((sngR tx fd 1 ag).1) = 124))), (0, .ref (g.1 + 15)), (1, .int 3)]) [0, 2, 1, 3, 4] rfl ?_
                refine v_lv (lv2 := [(4, .int (nI (iz + 1))), (3, .int (bb false)), (2, .int (bb true)), (0, .ref (g.1 + 15)), (1, .int 3)]) (by rw [bq_t h19, bq_f h15]; rfl) ?_
                exact ih (iz + 1) true false _ _ _ (by omega) (by rw [show b2n true = 1 from rfl, show b2n false = 0 from rfl]; omega) (by omega) (by rw [← hZ, eiL_eo hc h15 h19])
              · -- not (nxt tx fd ((sngR tx fd 1 ag).1) = 124)
                refine v_I (I2 := (rI I (nI (sngR tx fd 1 ag).1) (nI (sz + (((out ++ co) ++ anL true) ++ eoL true).length)) ng4 fa (putL st sz ((((out ++ co) ++ anL true) ++ eoL true).map ccd)))) (by rw [ifc_f h19]) ?_
                refine v_iconst (v := 1) dX4_parseEither_69 (by decide) ?_
                exact v_zret hr dX4_parseEither_70 (by first | rfl | exact nbq) (by (rw [← hZ, eiL_end hc h15 h19]; exact pps_some))
          · -- (nxt tx fd ((sngR tx fd 1 ag).1) = 38)
            have hlq := nxt_eq h15 (by decide)
            refine v_I (I2 := (rI I (nI ((sngR tx fd 1 ag).1 + 1)) (nI (sz + ((out ++ co) ++ anL true).length)) ng4 fa (putL st sz (((out ++ co) ++ anL true).map ccd)))) (by rw [ifc_t h15]) ?_
            refine v_goto (tgt := 71) dX4_parseEither_45 (by decide) ?_
            refine v_inc (v := nI (iz + 1)) (lv2 := [(4, .int (nI (iz + 1))), (3, .int (bq (nxt tx fd ((sngR tx fd 1 ag).1) = 38))), (2, .int (bb ei)), (0, .ref (g.1 + 15)), (1, .int 3)]) dX4_parseEither_71 1 rfl (nx_inc rfl) (by decide) rfl ?_
            refine v_goto (tgt := 7) dX4_parseEither_74 (by decide) ?_
            refine v_lv (lv2 := [(4, .int (nI (iz + 1))), (3, .int (bb true)), (2, .int (bb ei)), (0, .ref (g.1 + 15)), (1, .int 3)]) (by rw [bq_t h15]; rfl) ?_
            exact ih (iz + 1) ei true _ _ _ (by omega) (by rw [show b2n true = 1 from rfl]; omega) (by omega) (by rw [← hZ, eiL_an hc h15])
      · -- not ((sngR tx fd 1 ag).2.isSome = true)
        refine v_iconst (v := 0) dX4_parseEither_22 (by decide) ?_
        exact v_zret hr dX4_parseEither_23 (by first | rfl | exact nbq) (by (rw [← hZ, eiL_no h7]; exact pps_none))
  refine v_iconst (v := 0) dX4_parseEither_0 (by decide) ?_
  refine v_istore_n (lv2 := [(2, .int 0), (0, .ref (g.1 + 15)), (1, .int 3)]) dX4_parseEither_1 rfl (by decide) rfl ?_
  refine v_iconst (v := 0) dX4_parseEither_2 (by decide) ?_
  refine v_istore_n (lv2 := [(3, .int 0), (2, .int 0), (0, .ref (g.1 + 15)), (1, .int 3)]) dX4_parseEither_3 rfl (by decide) rfl ?_
  refine v_iconst (v := 0) dX4_parseEither_4 (by decide) ?_
  refine v_istore (lv2 := [(4, .int 0), (3, .int 0), (2, .int 0), (0, .ref (g.1 + 15)), (1, .int 3)]) dX4_parseEither_5 (by decide) rfl ?_
  refine v_lv (lv2 := [(4, .int (nI 0)), (3, .int (bb false)), (2, .int (bb false)), (0, .ref (g.1 + 15)), (1, .int 3)]) (by rfl) ?_
  refine v_I (I2 := (rI I (nI az) (nI (sz + ([] : List Tk).length)) nu fa (putL st sz (([] : List Tk).map ccd)))) (by rfl) ?_
  exact key 100 0 false false az [] nu rfl (by show sz + 0 + 0 + 0 ≤ az; omega) ha rfl
set_option maxRecDepth 100000 in
set_option maxHeartbeats 1000000 in
theorem c_sng_2 {g : Gl} {I : Ty} {L : TL} {na nt ni m : Nat} {nl : Nat → Nat}  (az sz : Nat) (nu fa : Int32) (st : Nat → Int32) (fd : Nat) (hf : fd ≤ 100) (hfd : I 15 0 = nI fd) (tx : Nat → Int32) (htx : I 16 = tx) (ha : az ≤ fd) (hs : sz ≤ az) : Ct g yX4_parseSingle cX4_parseSingle 3 (some .boolean) 10 0 0 [.ref (g.1 + 15), .int 2] (rI I (nI az) (nI sz) nu fa st) L (RT na nt ni) (NT nl) (NB + m) (Pps I L (RT na nt ni) (NT nl) (NB + m) sz fa st (sngR tx fd 2 az)) := by
  refine ct_of (by decide +kernel) (Nat.le_of_ble_eq_true rfl) (fun F hnm hr => ?_)
  clear hnm
  show V g F cX4_parseSingle RX4 3 10 0 [(0, .ref (g.1 + 15)), (1, .int 2)] [] (rI I (nI az) (nI sz) nu fa st) L (RT na nt ni) (NT nl) (NB + m) 0 0
  refine v_aload_n dX4_parseSingle_0 rfl 0 rfl ?_
  refine v_callVi (As := []) (rest := []) lk_X4_48 (c_X4_sign az sz nu fa st fd hf hfd tx htx (by omega)) dX4_parseSingle_1 rfl (ltn rfl) rfl rfl (Nat.le_of_ble_eq_true rfl) (by decide) ?_
  refine v_istore_n (lv2 := [(2, .int (nxt tx fd az)), (0, .ref (g.1 + 15)), (1, .int 2)]) dX4_parseSingle_4 rfl (by decide) rfl ?_
  refine v_iload_n dX4_parseSingle_5 rfl 0 rfl ?_
  refine v_bipush (v := 33) dX4_parseSingle_6 (by decide) ?_
  refine v_icmp_eq (tgt := 22) dX4_parseSingle_8 (by decide) (fun h2 => ?_) (fun h2 => ?_)
  · refine v_iload_n dX4_parseSingle_22 rfl 2 rfl ?_
    refine v_iconst (v := 4) dX4_parseSingle_23 (by decide) ?_
    refine v_icmp_lt (tgt := 29) dX4_parseSingle_24 (by decide) (fun _ => ?_) (fun h3 => by first | exact absurd h3 (by decide) | exact absurd (by decide) h3)
    refine v_aload_n dX4_parseSingle_29 rfl 1 rfl ?_
    refine v_dup dX4_parseSingle_30 rfl ?_
    refine v_get (v := .int ((rI I (nI az) (nI sz) nu fa st) 15 1)) fa_X4_20 dX4_parseSingle_31 rfl (by decide) (ltn rfl) rfl ?_
    refine v_is (y := nI az) (by rfl) ?_
    refine v_iconst (v := 1) dX4_parseSingle_34 (by decide) ?_
    refine v_iadd dX4_parseSingle_35 ?_
    refine v_is (nx_add rfl rfl) ?_
    refine v_puti pa_X4_20 dX4_parseSingle_36 rfl (by decide) (ltn rfl) (by show 1 < 7; decide) rfl ?_
    refine v_I (I2 := (rI I (nI (az + 1)) (nI sz) nu fa st)) (by first | rfl | (simp only [rI_a, rI_sc, rI_nu, rI_fa, rI_st]; done)) ?_
    have hlt := nxt_eq h2 (by decide)
    refine v_iload_n dX4_parseSingle_39 rfl 0 rfl ?_
    refine v_bipush (v := 40) dX4_parseSingle_40 (by decide) ?_
    refine v_icmp_ne (tgt := 70) dX4_parseSingle_42 (by decide) (fun _ => ?_) (fun hx => absurd (h2.symm.trans hx) (by decide))
    refine v_aload_n dX4_parseSingle_70 rfl 1 rfl ?_
    refine v_iload_n dX4_parseSingle_71 rfl 2 rfl ?_
    refine v_iconst (v := 1) dX4_parseSingle_72 (by decide) ?_
    refine v_iadd dX4_parseSingle_73 ?_
    refine v_is (nx_add rfl rfl) ?_
    refine v_callPs (As := [.int (nI (2 + 1))]) (rest := []) lk_X4_76 (c_sng_1 (az + 1) sz nu fa st fd hf hfd tx htx (by omega) (by omega)) dX4_parseSingle_74 rfl (ltn rfl) rfl rfl (Nat.le_of_ble_eq_true rfl) (by decide) (fun s5 ng6 tg7 ho8 => ?_)
    refine v_ifb_ne (tgt := 82) dX4_parseSingle_77 (by decide) (fun h9 => ?_) (fun h9 => ?_)
    · -- ((sngR tx fd 1 (az + 1)).2.isSome = true)
      obtain ⟨co, hc⟩ := Option.isSome_iff_exists.mp h9
      obtain ⟨rfl, rfl⟩ := ho8 co hc
      have hq1 := sng_len 1 (az + 1) (sngR tx fd 1 (az + 1)).1 co (Prod.ext rfl hc)
      have hq2 := sng_in (tx := tx) (fd := fd) 1 (az + 1) (by omega)
      refine v_aload_n dX4_parseSingle_82 rfl 1 rfl ?_
      refine v_iconst (v := 0) dX4_parseSingle_83 (by decide) ?_
      refine v_iconst (v := 0) dX4_parseSingle_84 (by decide) ?_
      refine v_callVv (As := [.int 0, .int 0]) (rest := []) lk_X4_72 (c_X4_addStep 0 0 ((sngR tx fd 1 (az + 1)).1) (sz + co.length) ng6 fa (putL st sz (co.map ccd)) fd hf hfd tx htx (by omega)) dX4_parseSingle_85 rfl (ltn rfl) rfl rfl (Nat.le_of_ble_eq_true rfl) (by decide) ?_
      refine v_I (I2 := (rI I (nI (sngR tx fd 1 (az + 1)).1) (nI (sz + (co ++ [Tk_no]).length)) ng6 fa (putL st sz ((co ++ [Tk_no]).map ccd)))) (by rw [ptc_one co Tk_no ccd_no, sz_one co Tk_no]) ?_
      refine v_iconst (v := 1) dX4_parseSingle_88 (by decide) ?_
      exact v_zret hr dX4_parseSingle_89 (by first | rfl | exact nbq) (by (rw [sng_not h2, notR_yes hc]; exact pps_some))
    · -- not ((sngR tx fd 1 (az + 1)).2.isSome = true)
      refine v_iconst (v := 0) dX4_parseSingle_80 (by decide) ?_
      exact v_zret hr dX4_parseSingle_81 (by first | rfl | exact nbq) (by (rw [sng_not h2, notR_no h9]; exact pps_none))
  · refine v_iload_n dX4_parseSingle_11 rfl 0 rfl ?_
    refine v_bipush (v := 40) dX4_parseSingle_12 (by decide) ?_
    refine v_icmp_eq (tgt := 22) dX4_parseSingle_14 (by decide) (fun h11 => ?_) (fun h11 => ?_)
    · refine v_iload_n dX4_parseSingle_22 rfl 2 rfl ?_
      refine v_iconst (v := 4) dX4_parseSingle_23 (by decide) ?_
      refine v_icmp_lt (tgt := 29) dX4_parseSingle_24 (by decide) (fun _ => ?_) (fun h12 => by first | exact absurd h12 (by decide) | exact absurd (by decide) h12)
      refine v_aload_n dX4_parseSingle_29 rfl 1 rfl ?_
      refine v_dup dX4_parseSingle_30 rfl ?_
      refine v_get (v := .int ((rI I (nI az) (nI sz) nu fa st) 15 1)) fa_X4_20 dX4_parseSingle_31 rfl (by decide) (ltn rfl) rfl ?_
      refine v_is (y := nI az) (by rfl) ?_
      refine v_iconst (v := 1) dX4_parseSingle_34 (by decide) ?_
      refine v_iadd dX4_parseSingle_35 ?_
      refine v_is (nx_add rfl rfl) ?_
      refine v_puti pa_X4_20 dX4_parseSingle_36 rfl (by decide) (ltn rfl) (by show 1 < 7; decide) rfl ?_
      refine v_I (I2 := (rI I (nI (az + 1)) (nI sz) nu fa st)) (by first | rfl | (simp only [rI_a, rI_sc, rI_nu, rI_fa, rI_st]; done)) ?_
      have hlt := nxt_eq h11 (by decide)
      refine v_iload_n dX4_parseSingle_39 rfl 0 rfl ?_
      refine v_bipush (v := 40) dX4_parseSingle_40 (by decide) ?_
      refine v_icmp_ne (tgt := 70) dX4_parseSingle_42 (by decide) (fun hx => absurd h11 hx) (fun _ => ?_)
      refine v_aload_n dX4_parseSingle_45 rfl 1 rfl ?_
      refine v_iload_n dX4_parseSingle_46 rfl 2 rfl ?_
      refine v_iconst (v := 1) dX4_parseSingle_47 (by decide) ?_
      refine v_iadd dX4_parseSingle_48 ?_
      refine v_is (nx_add rfl rfl) ?_
      refine v_callPs (As := [.int (nI (2 + 1))]) (rest := []) lk_X4_68 (c_ei_1 (az + 1) sz nu fa st fd hf hfd tx htx (by omega) (by omega)) dX4_parseSingle_49 rfl (ltn rfl) rfl rfl (Nat.le_of_ble_eq_true rfl) (by decide) (fun s14 ng15 tg16 ho17 => ?_)
      refine v_ifb_eq (tgt := 68) dX4_parseSingle_52 (by decide) (fun h18 => ?_) (fun h18 => ?_)
      · -- not ((eiL tx fd (sngR tx fd 1) 100 false false (az + 1) []).2.isSome = true)
        refine v_iconst (v := 0) dX4_parseSingle_68 (by decide) ?_
        exact v_zret hr dX4_parseSingle_69 (by first | rfl | exact nbq) (by (rw [sng_par h11, parR_no h18]; exact pps_none))
      · -- ((eiL tx fd (sngR tx fd 1) 100 false false (az + 1) []).2.isSome = true)
        obtain ⟨co, hc⟩ := Option.isSome_iff_exists.mp h18
        obtain ⟨rfl, rfl⟩ := ho17 co hc
        have hq2 := eiL_in (tx := tx) (sng_in (tx := tx) (fd := fd) 1) 100 false false (az + 1) [] (by omega)
        refine v_aload_n dX4_parseSingle_55 rfl 1 rfl ?_
        refine v_bipush (v := 41) dX4_parseSingle_56 (by decide) ?_
        refine v_callVi (As := [.int 41]) (rest := []) lk_X4_33 (c_X4_takeSign 41 ((eiL tx fd (sngR tx fd 1) 100 false false (az + 1) []).1) (sz + co.length) ng15 fa (putL st sz (co.map ccd)) fd hf hfd tx htx (by omega)) dX4_parseSingle_58 rfl (ltn rfl) rfl rfl (Nat.le_of_ble_eq_true rfl) (by decide) ?_
        refine v_ifb_eq (tgt := 68) dX4_parseSingle_61 (by decide) (fun h19 => ?_) (fun h19 => ?_)
        · -- not (nxt tx fd ((eiL tx fd (sngR tx fd 1) 100 false false (az + 1) []).1) = 41)
          refine v_I (I2 := (rI I (nI (eiL tx fd (sngR tx fd 1) 100 false false (az + 1) []).1) (nI (sz + co.length)) ng15 fa (putL st sz (co.map ccd)))) (by rw [ifc_f h19]) ?_
          refine v_iconst (v := 0) dX4_parseSingle_68 (by decide) ?_
          exact v_zret hr dX4_parseSingle_69 (by first | rfl | exact nbq) (by (rw [sng_par h11, parR_f hc h19]; exact pps_none))
        · -- (nxt tx fd ((eiL tx fd (sngR tx fd 1) 100 false false (az + 1) []).1) = 41)
          refine v_I (I2 := (rI I (nI ((eiL tx fd (sngR tx fd 1) 100 false false (az + 1) []).1 + 1)) (nI (sz + co.length)) ng15 fa (putL st sz (co.map ccd)))) (by rw [ifc_t h19]) ?_
          refine v_iconst (v := 1) dX4_parseSingle_64 (by decide) ?_
          refine v_goto (tgt := 69) dX4_parseSingle_65 (by decide) ?_
          exact v_zret hr dX4_parseSingle_69 (by first | rfl | exact nbq) (by (rw [sng_par h11, parR_t hc h19]; exact pps_some))
    · refine v_aload_n dX4_parseSingle_17 rfl 1 rfl ?_
      refine v_callVi (As := []) (rest := []) lk_X4_79 (c_X4_parseTest az sz nu fa st fd hf hfd tx htx (by omega) (by omega)) dX4_parseSingle_18 rfl (ltn rfl) rfl rfl (Nat.le_of_ble_eq_true rfl) (by decide) ?_
      exact v_zret hr dX4_parseSingle_21 (by first | rfl | exact nbq) (by (rw [sngT h2 h11]; exact pps_tst))
set_option maxRecDepth 100000 in
set_option maxHeartbeats 2000000 in
theorem c_ei_2 {g : Gl} {I : Ty} {L : TL} {na nt ni m : Nat} {nl : Nat → Nat}  (az sz : Nat) (nu fa : Int32) (st : Nat → Int32) (fd : Nat) (hf : fd ≤ 100) (hfd : I 15 0 = nI fd) (tx : Nat → Int32) (htx : I 16 = tx) (ha : az ≤ fd) (hs : sz ≤ az) : Ct g yX4_parseEither cX4_parseEither 5 (some .boolean) 11 0 0 [.ref (g.1 + 15), .int 2] (rI I (nI az) (nI sz) nu fa st) L (RT na nt ni) (NT nl) (NB + m) (Pps I L (RT na nt ni) (NT nl) (NB + m) sz fa st (eiL tx fd (sngR tx fd 2) 100 false false az [])) := by
  refine ct_of (by decide +kernel) (Nat.le_of_ble_eq_true rfl) (fun F hnm hr => ?_)
  clear hnm
  show V g F cX4_parseEither RX4 5 11 0 [(0, .ref (g.1 + 15)), (1, .int 2)] [] (rI I (nI az) (nI sz) nu fa st) L (RT na nt ni) (NT nl) (NB + m) 0 0
  have b2t : b2n true = 1 := rfl
  have b2f : b2n false = 0 := rfl
  have key : ∀ kz, ∀ (iz : Nat) (ei bo : Bool) (ag : Nat) (out : List Tk) (ng : Int32), iz + kz = 100 → sz + out.length + b2n bo + b2n ei ≤ ag → ag ≤ fd → eiL tx fd (sngR tx fd 2) kz ei bo ag out = eiL tx fd (sngR tx fd 2) 100 false false az [] → V g F cX4_parseEither RX4 5 11 7 [(4, .int (nI iz)), (3, .int (bb bo)), (2, .int (bb ei)), (0, .ref (g.1 + 15)), (1, .int 2)] [] (rI I (nI ag) (nI (sz + out.length)) ng fa (putL st sz (out.map ccd))) L (RT na nt ni) (NT nl) (NB + m) 0 0 := by
    intro kz
    induction kz with
    | zero =>
      intro iz ei bo ag out ng hik hinv hag hZ
      refine v_iload dX4_parseEither_7 0 rfl ?_
      refine v_bipush (v := 100) dX4_parseEither_9 (by decide) ?_
      refine v_icmp_geN (a := iz) (b := 100) (tgt := 77) dX4_parseEither_11 (by decide) rfl rfl (by omega) (by omega) (fun h1 => ?_) (fun h => by exfalso; omega)
      refine v_iconst (v := 0) dX4_parseEither_77 (by decide) ?_
      exact v_zret hr dX4_parseEither_78 (by first | rfl | exact nbq) (by (rw [← hZ]; exact pps_none))
    | succ kz ih =>
      intro iz ei bo ag out ng hik hinv hag hZ
      refine v_iload dX4_parseEither_7 0 rfl ?_
      refine v_bipush (v := 100) dX4_parseEither_9 (by decide) ?_
      refine v_icmp_geN (a := iz) (b := 100) (tgt := 77) dX4_parseEither_11 (by decide) rfl rfl (by omega) (by omega) (fun h => by exfalso; omega) (fun h2 => ?_)
      refine v_aload_n dX4_parseEither_14 rfl 3 rfl ?_
      refine v_iload_n dX4_parseEither_15 rfl 4 rfl ?_
      refine v_callPs (As := [.int 2]) (rest := []) lk_X4_76 (c_sng_2 ag (sz + out.length) ng fa (putL st sz (out.map ccd)) fd hf hfd tx htx (by omega) (by omega)) dX4_parseEither_16 rfl (ltn rfl) rfl rfl (Nat.le_of_ble_eq_true rfl) (by decide) (fun s3 ng4 tg5 ho6 => ?_)
      refine v_ifb_ne (tgt := 24) dX4_parseEither_19 (by decide) (fun h7 => ?_) (fun h7 => ?_)
      · -- ((sngR tx fd 2 ag).2.isSome = true)
        obtain ⟨co, hc⟩ := Option.isSome_iff_exists.mp h7
        obtain ⟨rfl, rfl⟩ := ho6 co hc
        have hq1 := sng_len 2 ag (sngR tx fd 2 ag).1 co (Prod.ext rfl hc)
        have hq2 := sng_in (tx := tx) (fd := fd) 2 ag hag
        have hl2 : (out ++ co).length = out.length + co.length := List.length_append
        refine v_I (I2 := (rI I (nI (sngR tx fd 2 ag).1) (nI (sz + (out ++ co).length)) ng4 fa (putL st sz ((out ++ co).map ccd)))) (by rw [ptc_app, sz_app]) ?_
        cases bo with
        | false =>
          show V g F cX4_parseEither RX4 5 11 24 [(4, .int (nI iz)), (3, .int 0), (2, .int (bb ei)), (0, .ref (g.1 + 15)), (1, .int 2)] [] (rI I (nI (sngR tx fd 2 ag).1) (nI (sz + (out ++ co).length)) ng4 fa (putL st sz ((out ++ co).map ccd))) L (RT na nt ni) (NT nl) (NB + m) 0 0
          refine v_iload_n dX4_parseEither_24 rfl 1 rfl ?_
          refine v_if_eq (tgt := 34) dX4_parseEither_25 (by decide) (fun _ => ?_) (fun h8 => by first | exact absurd h8 (by decide) | exact absurd (by decide) h8)
          refine v_I (I2 := (rI I (nI (sngR tx fd 2 ag).1) (nI (sz + ((out ++ co) ++ anL false).length)) ng4 fa (putL st sz (((out ++ co) ++ anL false).map ccd)))) (by rw [show anL false = [] from rfl, List.append_nil]) ?_
          have hl3 : ((out ++ co) ++ anL false).length = out.length + co.length + b2n false := by rw [List.length_append, List.length_append, anL_len]
          refine v_aload_n dX4_parseEither_34 rfl 3 rfl ?_
          refine v_bipush (v := 38) dX4_parseEither_35 (by decide) ?_
          refine v_callVi (As := [.int 38]) (rest := []) lk_X4_33 (c_X4_takeSign 38 ((sngR tx fd 2 ag).1) (sz + ((out ++ co) ++ anL false).length) ng4 fa (putL st sz (((out ++ co) ++ anL false).map ccd)) fd hf hfd tx htx (by omega)) dX4_parseEither_37 rfl (ltn rfl) rfl rfl (Nat.le_of_ble_eq_true rfl) (by decide) ?_
          refine v_istore_n (lv2 := [(3, .int (bq (nxt tx fd ((sngR tx fd 2 ag).1) = 38))), (4, .int (nI iz)), (2, .int (bb ei)), (0, .ref (g.1 + 15)), (1, .int 2)]) dX4_parseEither_40 rfl (by decide) rfl ?_
          refine v_iload_n dX4_parseEither_41 rfl 0 rfl ?_
          refine v_ifb_eq (tgt := 48) dX4_parseEither_42 (by decide) (fun h9 => ?_) (fun h9 => ?_)
          · -- not (nxt tx fd ((sngR tx fd 2 ag).1) = 38)
            refine v_I (I2 := (rI I (nI (sngR tx fd 2 ag).1) (nI (sz + ((out ++ co) ++ anL false).length)) ng4 fa (putL st sz (((out ++ co) ++ anL false).map ccd)))) (by rw [ifc_f h9]) ?_
            cases ei with
            | false =>
              show V g F cX4_parseEither RX4 5 11 48 [(3, .int (bq (nxt tx fd ((sngR tx fd 2 ag).1) = 38))), (4, .int (nI iz)), (2, .int 0), (0, .ref (g.1 + 15)), (1, .int 2)] [] (rI I (nI (sngR tx fd 2 ag).1) (nI (sz + ((out ++ co) ++ anL false).length)) ng4 fa (putL st sz (((out ++ co) ++ anL false).map ccd))) L (RT na nt ni) (NT nl) (NB + m) 0 0
              refine v_iload_n dX4_parseEither_48 rfl 2 rfl ?_
              refine v_if_eq (tgt := 58) dX4_parseEither_49 (by decide) (fun _ => ?_) (fun h10 => by first | exact absurd h10 (by decide) | exact absurd (by decide) h10)
              refine v_I (I2 := (rI I (nI (sngR tx fd 2 ag).1) (nI (sz + (((out ++ co) ++ anL false) ++ eoL false).length)) ng4 fa (putL st sz ((((out ++ co) ++ anL false) ++ eoL false).map ccd)))) (by rw [show eoL false = [] from rfl, List.append_nil]) ?_
              have hl4 : (((out ++ co) ++ anL false) ++ eoL false).length = out.length + co.length + b2n false + b2n false := by rw [List.length_append, hl3, eoL_len]
              refine v_aload_n dX4_parseEither_58 rfl 3 rfl ?_
              refine v_bipush (v := 124) dX4_parseEither_59 (by decide) ?_
              refine v_callVi (As := [.int 124]) (rest := []) lk_X4_33 (c_X4_takeSign 124 ((sngR tx fd 2 ag).1) (sz + (((out ++ co) ++ anL false) ++ eoL false).length) ng4 fa (putL st sz ((((out ++ co) ++ anL false) ++ eoL false).map ccd)) fd hf hfd tx htx (by omega)) dX4_parseEither_61 rfl (ltn rfl) rfl rfl (Nat.le_of_ble_eq_true rfl) (by decide) ?_
              refine v_istore_n (lv2 := [(2, .int (bq (nxt tx fd ((sngR tx fd 2 ag).1) = 124))), (3, .int (bq (nxt tx fd ((sngR tx fd 2 ag).1) = 38))), (4, .int (nI iz)), (0, .ref (g.1 + 15)), (1, .int 2)]) dX4_parseEither_64 rfl (by decide) rfl ?_
              refine v_iload_n dX4_parseEither_65 rfl 0 rfl ?_
              refine v_ifb_ne (tgt := 71) dX4_parseEither_66 (by decide) (fun h11 => ?_) (fun h11 => ?_)
              · -- (nxt tx fd ((sngR tx fd 2 ag).1) = 124)
                have hlq := nxt_eq h11 (by decide)
                refine v_I (I2 := (rI I (nI ((sngR tx fd 2 ag).1 + 1)) (nI (sz + (((out ++ co) ++ anL false) ++ eoL false).length)) ng4 fa (putL st sz ((((out ++ co) ++ anL false) ++ eoL false).map ccd)))) (by rw [ifc_t h11]) ?_
                refine v_inc (v := nI (iz + 1)) (lv2 := [(4, .int (nI (iz + 1))), (2, .int (bq (nxt tx fd ((sngR tx fd 2 ag).1) = 124))), (3, .int (bq (nxt tx fd ((sngR tx fd 2 ag).1) = 38))), (0, .ref (g.1 + 15)), (1, .int 2)]) dX4_parseEither_71 2 rfl (nx_inc rfl) (by decide) rfl ?_
                refine v_goto (tgt := 7) dX4_parseEither_74 (by decide) ?_
                refine v_sub (lv2 := [(4, .int (nI (iz + 1))), (3, .int (bq (nxt tx fd ((sngR tx fd 2 ag).1) = 38))), (2, .int (bq (nxt tx fd ((sngR tx fd 2 ag).1) = 124))), (0, .ref (g.1 + 15)), (1, .int 2)]) [0, 2, 1, 3, 4] rfl ?_
                refine v_lv (lv2 := [(4, .int (nI (iz + 1))), (3, .int (bb false)), (2, .int (bb true)), (0, .ref (g.1 + 15)), (1, .int 2)]) (by rw [bq_t h11, bq_f h9]; rfl) ?_
                exact ih (iz + 1) true false _ _ _ (by omega) (by rw [show b2n true = 1 from rfl, show b2n false = 0 from rfl]; omega) (by omega) (by rw [← hZ, eiL_eo hc h9 h11])
              · -- not (nxt tx fd ((sngR tx fd 2 ag).1) = 124)
                refine v_I (I2 := (rI I (nI (sngR tx fd 2 ag).1) (nI (sz + (((out ++ co) ++ anL false) ++ eoL false).length)) ng4 fa (putL st sz ((((out ++ co) ++ anL false) ++ eoL false).map ccd)))) (by rw [ifc_f h11]) ?_
                refine v_iconst (v := 1) dX4_parseEither_69 (by decide) ?_
                exact v_zret hr dX4_parseEither_70 (by first | rfl | exact nbq) (by (rw [← hZ, eiL_end hc h9 h11]; exact pps_some))
            | true =>
              show V g F cX4_parseEither RX4 5 11 48 [(3, .int (bq (nxt tx fd ((sngR tx fd 2 ag).1) = 38))), (4, .int (nI iz)), (2, .int 1), (0, .ref (g.1 + 15)), (1, .int 2)] [] (rI I (nI (sngR tx fd 2 ag).1) (nI (sz + ((out ++ co) ++ anL false).length)) ng4 fa (putL st sz (((out ++ co) ++ anL false).map ccd))) L (RT na nt ni) (NT nl) (NB + m) 0 0
              refine v_iload_n dX4_parseEither_48 rfl 2 rfl ?_
              refine v_if_eq (tgt := 58) dX4_parseEither_49 (by decide) (fun h12 => by first | exact absurd h12 (by decide) | exact absurd (by decide) h12) (fun _ => ?_)
              refine v_aload_n dX4_parseEither_52 rfl 3 rfl ?_
              refine v_iconst (v := 2) dX4_parseEither_53 (by decide) ?_
              refine v_iconst (v := 0) dX4_parseEither_54 (by decide) ?_
              refine v_callVv (As := [.int 2, .int 0]) (rest := []) lk_X4_72 (c_X4_addStep 2 0 ((sngR tx fd 2 ag).1) (sz + ((out ++ co) ++ anL false).length) ng4 fa (putL st sz (((out ++ co) ++ anL false).map ccd)) fd hf hfd tx htx (by omega)) dX4_parseEither_55 rfl (ltn rfl) rfl rfl (Nat.le_of_ble_eq_true rfl) (by decide) ?_
              refine v_I (I2 := (rI I (nI (sngR tx fd 2 ag).1) (nI (sz + (((out ++ co) ++ anL false) ++ eoL true).length)) ng4 fa (putL st sz ((((out ++ co) ++ anL false) ++ eoL true).map ccd)))) (by rw [ptc_one _ Tk_eo ccd_eo, sz_one _ Tk_eo]; rfl) ?_
              have hl4 : (((out ++ co) ++ anL false) ++ eoL true).length = out.length + co.length + b2n false + b2n true := by rw [List.length_append, hl3, eoL_len]
              refine v_aload_n dX4_parseEither_58 rfl 3 rfl ?_
              refine v_bipush (v := 124) dX4_parseEither_59 (by decide) ?_
              refine v_callVi (As := [.int 124]) (rest := []) lk_X4_33 (c_X4_takeSign 124 ((sngR tx fd 2 ag).1) (sz + (((out ++ co) ++ anL false) ++ eoL true).length) ng4 fa (putL st sz ((((out ++ co) ++ anL false) ++ eoL true).map ccd)) fd hf hfd tx htx (by omega)) dX4_parseEither_61 rfl (ltn rfl) rfl rfl (Nat.le_of_ble_eq_true rfl) (by decide) ?_
              refine v_istore_n (lv2 := [(2, .int (bq (nxt tx fd ((sngR tx fd 2 ag).1) = 124))), (3, .int (bq (nxt tx fd ((sngR tx fd 2 ag).1) = 38))), (4, .int (nI iz)), (0, .ref (g.1 + 15)), (1, .int 2)]) dX4_parseEither_64 rfl (by decide) rfl ?_
              refine v_iload_n dX4_parseEither_65 rfl 0 rfl ?_
              refine v_ifb_ne (tgt := 71) dX4_parseEither_66 (by decide) (fun h13 => ?_) (fun h13 => ?_)
              · -- (nxt tx fd ((sngR tx fd 2 ag).1) = 124)
                have hlq := nxt_eq h13 (by decide)
                refine v_I (I2 := (rI I (nI ((sngR tx fd 2 ag).1 + 1)) (nI (sz + (((out ++ co) ++ anL false) ++ eoL true).length)) ng4 fa (putL st sz ((((out ++ co) ++ anL false) ++ eoL true).map ccd)))) (by rw [ifc_t h13]) ?_
                refine v_inc (v := nI (iz + 1)) (lv2 := [(4, .int (nI (iz + 1))), (2, .int (bq (nxt tx fd ((sngR tx fd 2 ag).1) = 124))), (3, .int (bq (nxt tx fd ((sngR tx fd 2 ag).1) = 38))), (0, .ref (g.1 + 15)), (1, .int 2)]) dX4_parseEither_71 2 rfl (nx_inc rfl) (by decide) rfl ?_
                refine v_goto (tgt := 7) dX4_parseEither_74 (by decide) ?_
                refine v_sub (lv2 := [(4, .int (nI (iz + 1))), (3, .int (bq (nxt tx fd ((sngR tx fd 2 ag).1) = 38))), (2, .int (bq (nxt tx fd ((sngR tx fd 2 ag).1) = 124))), (0, .ref (g.1 + 15)), (1, .int 2)]) [0, 2, 1, 3, 4] rfl ?_
                refine v_lv (lv2 := [(4, .int (nI (iz + 1))), (3, .int (bb false)), (2, .int (bb true)), (0, .ref (g.1 + 15)), (1, .int 2)]) (by rw [bq_t h13, bq_f h9]; rfl) ?_
                exact ih (iz + 1) true false _ _ _ (by omega) (by rw [show b2n true = 1 from rfl, show b2n false = 0 from rfl]; omega) (by omega) (by rw [← hZ, eiL_eo hc h9 h13])
              · -- not (nxt tx fd ((sngR tx fd 2 ag).1) = 124)
                refine v_I (I2 := (rI I (nI (sngR tx fd 2 ag).1) (nI (sz + (((out ++ co) ++ anL false) ++ eoL true).length)) ng4 fa (putL st sz ((((out ++ co) ++ anL false) ++ eoL true).map ccd)))) (by rw [ifc_f h13]) ?_
                refine v_iconst (v := 1) dX4_parseEither_69 (by decide) ?_
                exact v_zret hr dX4_parseEither_70 (by first | rfl | exact nbq) (by (rw [← hZ, eiL_end hc h9 h13]; exact pps_some))
          · -- (nxt tx fd ((sngR tx fd 2 ag).1) = 38)
            have hlq := nxt_eq h9 (by decide)
            refine v_I (I2 := (rI I (nI ((sngR tx fd 2 ag).1 + 1)) (nI (sz + ((out ++ co) ++ anL false).length)) ng4 fa (putL st sz (((out ++ co) ++ anL false).map ccd)))) (by rw [ifc_t h9]) ?_
            refine v_goto (tgt := 71) dX4_parseEither_45 (by decide) ?_
            refine v_inc (v := nI (iz + 1)) (lv2 := [(4, .int (nI (iz + 1))), (3, .int (bq (nxt tx fd ((sngR tx fd 2 ag).1) = 38))), (2, .int (bb ei)), (0, .ref (g.1 + 15)), (1, .int 2)]) dX4_parseEither_71 1 rfl (nx_inc rfl) (by decide) rfl ?_
            refine v_goto (tgt := 7) dX4_parseEither_74 (by decide) ?_
            refine v_lv (lv2 := [(4, .int (nI (iz + 1))), (3, .int (bb true)), (2, .int (bb ei)), (0, .ref (g.1 + 15)), (1, .int 2)]) (by rw [bq_t h9]; rfl) ?_
            exact ih (iz + 1) ei true _ _ _ (by omega) (by rw [show b2n true = 1 from rfl]; omega) (by omega) (by rw [← hZ, eiL_an hc h9])
        | true =>
          show V g F cX4_parseEither RX4 5 11 24 [(4, .int (nI iz)), (3, .int 1), (2, .int (bb ei)), (0, .ref (g.1 + 15)), (1, .int 2)] [] (rI I (nI (sngR tx fd 2 ag).1) (nI (sz + (out ++ co).length)) ng4 fa (putL st sz ((out ++ co).map ccd))) L (RT na nt ni) (NT nl) (NB + m) 0 0
          refine v_iload_n dX4_parseEither_24 rfl 1 rfl ?_
          refine v_if_eq (tgt := 34) dX4_parseEither_25 (by decide) (fun h14 => by first | exact absurd h14 (by decide) | exact absurd (by decide) h14) (fun _ => ?_)
          refine v_aload_n dX4_parseEither_28 rfl 3 rfl ?_
          refine v_iconst (v := 1) dX4_parseEither_29 (by decide) ?_
          refine v_iconst (v := 0) dX4_parseEither_30 (by decide) ?_
          refine v_callVv (As := [.int 1, .int 0]) (rest := []) lk_X4_72 (c_X4_addStep 1 0 ((sngR tx fd 2 ag).1) (sz + (out ++ co).length) ng4 fa (putL st sz ((out ++ co).map ccd)) fd hf hfd tx htx (by omega)) dX4_parseEither_31 rfl (ltn rfl) rfl rfl (Nat.le_of_ble_eq_true rfl) (by decide) ?_
          refine v_I (I2 := (rI I (nI (sngR tx fd 2 ag).1) (nI (sz + ((out ++ co) ++ anL true).length)) ng4 fa (putL st sz (((out ++ co) ++ anL true).map ccd)))) (by rw [ptc_one _ Tk_an ccd_an, sz_one _ Tk_an]; rfl) ?_
          have hl3 : ((out ++ co) ++ anL true).length = out.length + co.length + b2n true := by rw [List.length_append, List.length_append, anL_len]
          refine v_aload_n dX4_parseEither_34 rfl 3 rfl ?_
          refine v_bipush (v := 38) dX4_parseEither_35 (by decide) ?_
          refine v_callVi (As := [.int 38]) (rest := []) lk_X4_33 (c_X4_takeSign 38 ((sngR tx fd 2 ag).1) (sz + ((out ++ co) ++ anL true).length) ng4 fa (putL st sz (((out ++ co) ++ anL true).map ccd)) fd hf hfd tx htx (by omega)) dX4_parseEither_37 rfl (ltn rfl) rfl rfl (Nat.le_of_ble_eq_true rfl) (by decide) ?_
          refine v_istore_n (lv2 := [(3, .int (bq (nxt tx fd ((sngR tx fd 2 ag).1) = 38))), (4, .int (nI iz)), (2, .int (bb ei)), (0, .ref (g.1 + 15)), (1, .int 2)]) dX4_parseEither_40 rfl (by decide) rfl ?_
          refine v_iload_n dX4_parseEither_41 rfl 0 rfl ?_
          refine v_ifb_eq (tgt := 48) dX4_parseEither_42 (by decide) (fun h15 => ?_) (fun h15 => ?_)
          · -- not (nxt tx fd ((sngR tx fd 2 ag).1) = 38)
            refine v_I (I2 := (rI I (nI (sngR tx fd 2 ag).1) (nI (sz + ((out ++ co) ++ anL true).length)) ng4 fa (putL st sz (((out ++ co) ++ anL true).map ccd)))) (by rw [ifc_f h15]) ?_
            cases ei with
            | false =>
              show V g F cX4_parseEither RX4 5 11 48 [(3, .int (bq (nxt tx fd ((sngR tx fd 2 ag).1) = 38))), (4, .int (nI iz)), (2, .int 0), (0, .ref (g.1 + 15)), (1, .int 2)] [] (rI I (nI (sngR tx fd 2 ag).1) (nI (sz + ((out ++ co) ++ anL true).length)) ng4 fa (putL st sz (((out ++ co) ++ anL true).map ccd))) L (RT na nt ni) (NT nl) (NB + m) 0 0
              refine v_iload_n dX4_parseEither_48 rfl 2 rfl ?_
              refine v_if_eq (tgt := 58) dX4_parseEither_49 (by decide) (fun _ => ?_) (fun h16 => by first | exact absurd h16 (by decide) | exact absurd (by decide) h16)
              refine v_I (I2 := (rI I (nI (sngR tx fd 2 ag).1) (nI (sz + (((out ++ co) ++ anL true) ++ eoL false).length)) ng4 fa (putL st sz ((((out ++ co) ++ anL true) ++ eoL false).map ccd)))) (by rw [show eoL false = [] from rfl, List.append_nil]) ?_
              have hl4 : (((out ++ co) ++ anL true) ++ eoL false).length = out.length + co.length + b2n true + b2n false := by rw [List.length_append, hl3, eoL_len]
              refine v_aload_n dX4_parseEither_58 rfl 3 rfl ?_
              refine v_bipush (v := 124) dX4_parseEither_59 (by decide) ?_
              refine v_callVi (As := [.int 124]) (rest := []) lk_X4_33 (c_X4_takeSign 124 ((sngR tx fd 2 ag).1) (sz + (((out ++ co) ++ anL true) ++ eoL false).length) ng4 fa (putL st sz ((((out ++ co) ++ anL true) ++ eoL false).map ccd)) fd hf hfd tx htx (by omega)) dX4_parseEither_61 rfl (ltn rfl) rfl rfl (Nat.le_of_ble_eq_true rfl) (by decide) ?_
              refine v_istore_n (lv2 := [(2, .int (bq (nxt tx fd ((sngR tx fd 2 ag).1) = 124))), (3, .int (bq (nxt tx fd ((sngR tx fd 2 ag).1) = 38))), (4, .int (nI iz)), (0, .ref (g.1 + 15)), (1, .int 2)]) dX4_parseEither_64 rfl (by decide) rfl ?_
              refine v_iload_n dX4_parseEither_65 rfl 0 rfl ?_
              refine v_ifb_ne (tgt := 71) dX4_parseEither_66 (by decide) (fun h17 => ?_) (fun h17 => ?_)
              · -- (nxt tx fd ((sngR tx fd 2 ag).1) = 124)
                have hlq := nxt_eq h17 (by decide)
                refine v_I (I2 := (rI I (nI ((sngR tx fd 2 ag).1 + 1)) (nI (sz + (((out ++ co) ++ anL true) ++ eoL false).length)) ng4 fa (putL st sz ((((out ++ co) ++ anL true) ++ eoL false).map ccd)))) (by rw [ifc_t h17]) ?_
                refine v_inc (v := nI (iz + 1)) (lv2 := [(4, .int (nI (iz + 1))), (2, .int (bq (nxt tx fd ((sngR tx fd 2 ag).1) = 124))), (3, .int (bq (nxt tx fd ((sngR tx fd 2 ag).1) = 38))), (0, .ref (g.1 + 15)), (1, .int 2)]) dX4_parseEither_71 2 rfl (nx_inc rfl) (by decide) rfl ?_
                refine v_goto (tgt := 7) dX4_parseEither_74 (by decide) ?_
                refine v_sub (lv2 := [(4, .int (nI (iz + 1))), (3, .int (bq (nxt tx fd ((sngR tx fd 2 ag).1) = 38))), (2, .int (bq (nxt tx fd ((sngR tx fd 2 ag).1) = 124))), (0, .ref (g.1 + 15)), (1, .int 2)]) [0, 2, 1, 3, 4] rfl ?_
                refine v_lv (lv2 := [(4, .int (nI (iz + 1))), (3, .int (bb false)), (2, .int (bb true)), (0, .ref (g.1 + 15)), (1, .int 2)]) (by rw [bq_t h17, bq_f h15]; rfl) ?_
                exact ih (iz + 1) true false _ _ _ (by omega) (by rw [show b2n true = 1 from rfl, show b2n false = 0 from rfl]; omega) (by omega) (by rw [← hZ, eiL_eo hc h15 h17])
              · -- not (nxt tx fd ((sngR tx fd 2 ag).1) = 124)
                refine v_I (I2 := (rI I (nI (sngR tx fd 2 ag).1) (nI (sz + (((out ++ co) ++ anL true) ++ eoL false).length)) ng4 fa (putL st sz ((((out ++ co) ++ anL true) ++ eoL false).map ccd)))) (by rw [ifc_f h17]) ?_
                refine v_iconst (v := 1) dX4_parseEither_69 (by decide) ?_
                exact v_zret hr dX4_parseEither_70 (by first | rfl | exact nbq) (by (rw [← hZ, eiL_end hc h15 h17]; exact pps_some))
            | true =>
              show V g F cX4_parseEither RX4 5 11 48 [(3, .int (bq (nxt tx fd ((sngR tx fd 2 ag).1) = 38))), (4, .int (nI iz)), (2, .int 1), (0, .ref (g.1 + 15)), (1, .int 2)] [] (rI I (nI (sngR tx fd 2 ag).1) (nI (sz + ((out ++ co) ++ anL true).length)) ng4 fa (putL st sz (((out ++ co) ++ anL true).map ccd))) L (RT na nt ni) (NT nl) (NB + m) 0 0
              refine v_iload_n dX4_parseEither_48 rfl 2 rfl ?_
              refine v_if_eq (tgt := 58) dX4_parseEither_49 (by decide) (fun h18 => by first | exact absurd h18 (by decide) | exact absurd (by decide) h18) (fun _ => ?_)
              refine v_aload_n dX4_parseEither_52 rfl 3 rfl ?_
              refine v_iconst (v := 2) dX4_parseEither_53 (by decide) ?_
              refine v_iconst (v := 0) dX4_parseEither_54 (by decide) ?_
              refine v_callVv (As := [.int 2, .int 0]) (rest := []) lk_X4_72 (c_X4_addStep 2 0 ((sngR tx fd 2 ag).1) (sz + ((out ++ co) ++ anL true).length) ng4 fa (putL st sz (((out ++ co) ++ anL true).map ccd)) fd hf hfd tx htx (by omega)) dX4_parseEither_55 rfl (ltn rfl) rfl rfl (Nat.le_of_ble_eq_true rfl) (by decide) ?_
              refine v_I (I2 := (rI I (nI (sngR tx fd 2 ag).1) (nI (sz + (((out ++ co) ++ anL true) ++ eoL true).length)) ng4 fa (putL st sz ((((out ++ co) ++ anL true) ++ eoL true).map ccd)))) (by rw [ptc_one _ Tk_eo ccd_eo, sz_one _ Tk_eo]; rfl) ?_
              have hl4 : (((out ++ co) ++ anL true) ++ eoL true).length = out.length + co.length + b2n true + b2n true := by rw [List.length_append, hl3, eoL_len]
              refine v_aload_n dX4_parseEither_58 rfl 3 rfl ?_
              refine v_bipush (v := 124) dX4_parseEither_59 (by decide) ?_
              refine v_callVi (As := [.int 124]) (rest := []) lk_X4_33 (c_X4_takeSign 124 ((sngR tx fd 2 ag).1) (sz + (((out ++ co) ++ anL true) ++ eoL true).length) ng4 fa (putL st sz ((((out ++ co) ++ anL true) ++ eoL true).map ccd)) fd hf hfd tx htx (by omega)) dX4_parseEither_61 rfl (ltn rfl) rfl rfl (Nat.le_of_ble_eq_true rfl) (by decide) ?_
              refine v_istore_n (lv2 := [(2, .int (bq (nxt tx fd ((sngR tx fd 2 ag).1) = 124))), (3, .int (bq (nxt tx fd ((sngR tx fd 2 ag).1) = 38))), (4, .int (nI iz)), (0, .ref (g.1 + 15)), (1, .int 2)]) dX4_parseEither_64 rfl (by decide) rfl ?_
              refine v_iload_n dX4_parseEither_65 rfl 0 rfl ?_
              refine v_ifb_ne (tgt := 71) dX4_parseEither_66 (by decide) (fun h19 => ?_) (fun h19 => ?_)
              · -- (nxt tx fd ((sngR tx fd 2 ag).1) = 124)
                have hlq := nxt_eq h19 (by decide)
                refine v_I (I2 := (rI I (nI ((sngR tx fd 2 ag).1 + 1)) (nI (sz + (((out ++ co) ++ anL true) ++ eoL true).length)) ng4 fa (putL st sz ((((out ++ co) ++ anL true) ++ eoL true).map ccd)))) (by rw [ifc_t h19]) ?_
                refine v_inc (v := nI (iz + 1)) (lv2 := [(4, .int (nI (iz + 1))), (2, .int (bq (nxt tx fd ((sngR tx fd 2 ag).1) = 124))), (3, .int (bq (nxt tx fd ((sngR tx fd 2 ag).1) = 38))), (0, .ref (g.1 + 15)), (1, .int 2)]) dX4_parseEither_71 2 rfl (nx_inc rfl) (by decide) rfl ?_
                refine v_goto (tgt := 7) dX4_parseEither_74 (by decide) ?_
                refine v_sub (lv2 := [(4, .int (nI (iz + 1))), (3, .int (bq (nxt tx fd ((sngR tx fd 2 ag).1) = 38))), (2, .int (bq (nxt tx fd ((sngR tx fd 2 ag).1) = 124))), (0, .ref (g.1 + 15)), (1, .int 2)]) [0, 2, 1, 3, 4] rfl ?_
                refine v_lv (lv2 := [(4, .int (nI (iz + 1))), (3, .int (bb false)), (2, .int (bb true)), (0, .ref (g.1 + 15)), (1, .int 2)]) (by rw [bq_t h19, bq_f h15]; rfl) ?_
                exact ih (iz + 1) true false _ _ _ (by omega) (by rw [show b2n true = 1 from rfl, show b2n false = 0 from rfl]; omega) (by omega) (by rw [← hZ, eiL_eo hc h15 h19])
              · -- not (nxt tx fd ((sngR tx fd 2 ag).1) = 124)
                refine v_I (I2 := (rI I (nI (sngR tx fd 2 ag).1) (nI (sz + (((out ++ co) ++ anL true) ++ eoL true).length)) ng4 fa (putL st sz ((((out ++ co) ++ anL true) ++ eoL true).map ccd)))) (by rw [ifc_f h19]) ?_
                refine v_iconst (v := 1) dX4_parseEither_69 (by decide) ?_
                exact v_zret hr dX4_parseEither_70 (by first | rfl | exact nbq) (by (rw [← hZ, eiL_end hc h15 h19]; exact pps_some))
          · -- (nxt tx fd ((sngR tx fd 2 ag).1) = 38)
            have hlq := nxt_eq h15 (by decide)
            refine v_I (I2 := (rI I (nI ((sngR tx fd 2 ag).1 + 1)) (nI (sz + ((out ++ co) ++ anL true).length)) ng4 fa (putL st sz (((out ++ co) ++ anL true).map ccd)))) (by rw [ifc_t h15]) ?_
            refine v_goto (tgt := 71) dX4_parseEither_45 (by decide) ?_
            refine v_inc (v := nI (iz + 1)) (lv2 := [(4, .int (nI (iz + 1))), (3, .int (bq (nxt tx fd ((sngR tx fd 2 ag).1) = 38))), (2, .int (bb ei)), (0, .ref (g.1 + 15)), (1, .int 2)]) dX4_parseEither_71 1 rfl (nx_inc rfl) (by decide) rfl ?_
            refine v_goto (tgt := 7) dX4_parseEither_74 (by decide) ?_
            refine v_lv (lv2 := [(4, .int (nI (iz + 1))), (3, .int (bb true)), (2, .int (bb ei)), (0, .ref (g.1 + 15)), (1, .int 2)]) (by rw [bq_t h15]; rfl) ?_
            exact ih (iz + 1) ei true _ _ _ (by omega) (by rw [show b2n true = 1 from rfl]; omega) (by omega) (by rw [← hZ, eiL_an hc h15])
      · -- not ((sngR tx fd 2 ag).2.isSome = true)
        refine v_iconst (v := 0) dX4_parseEither_22 (by decide) ?_
        exact v_zret hr dX4_parseEither_23 (by first | rfl | exact nbq) (by (rw [← hZ, eiL_no h7]; exact pps_none))
  refine v_iconst (v := 0) dX4_parseEither_0 (by decide) ?_
  refine v_istore_n (lv2 := [(2, .int 0), (0, .ref (g.1 + 15)), (1, .int 2)]) dX4_parseEither_1 rfl (by decide) rfl ?_
  refine v_iconst (v := 0) dX4_parseEither_2 (by decide) ?_
  refine v_istore_n (lv2 := [(3, .int 0), (2, .int 0), (0, .ref (g.1 + 15)), (1, .int 2)]) dX4_parseEither_3 rfl (by decide) rfl ?_
  refine v_iconst (v := 0) dX4_parseEither_4 (by decide) ?_
  refine v_istore (lv2 := [(4, .int 0), (3, .int 0), (2, .int 0), (0, .ref (g.1 + 15)), (1, .int 2)]) dX4_parseEither_5 (by decide) rfl ?_
  refine v_lv (lv2 := [(4, .int (nI 0)), (3, .int (bb false)), (2, .int (bb false)), (0, .ref (g.1 + 15)), (1, .int 2)]) (by rfl) ?_
  refine v_I (I2 := (rI I (nI az) (nI (sz + ([] : List Tk).length)) nu fa (putL st sz (([] : List Tk).map ccd)))) (by rfl) ?_
  exact key 100 0 false false az [] nu rfl (by show sz + 0 + 0 + 0 ≤ az; omega) ha rfl
set_option maxRecDepth 100000 in
set_option maxHeartbeats 1000000 in
theorem c_sng_3 {g : Gl} {I : Ty} {L : TL} {na nt ni m : Nat} {nl : Nat → Nat}  (az sz : Nat) (nu fa : Int32) (st : Nat → Int32) (fd : Nat) (hf : fd ≤ 100) (hfd : I 15 0 = nI fd) (tx : Nat → Int32) (htx : I 16 = tx) (ha : az ≤ fd) (hs : sz ≤ az) : Ct g yX4_parseSingle cX4_parseSingle 3 (some .boolean) 12 0 0 [.ref (g.1 + 15), .int 1] (rI I (nI az) (nI sz) nu fa st) L (RT na nt ni) (NT nl) (NB + m) (Pps I L (RT na nt ni) (NT nl) (NB + m) sz fa st (sngR tx fd 3 az)) := by
  refine ct_of (by decide +kernel) (Nat.le_of_ble_eq_true rfl) (fun F hnm hr => ?_)
  clear hnm
  show V g F cX4_parseSingle RX4 3 12 0 [(0, .ref (g.1 + 15)), (1, .int 1)] [] (rI I (nI az) (nI sz) nu fa st) L (RT na nt ni) (NT nl) (NB + m) 0 0
  refine v_aload_n dX4_parseSingle_0 rfl 0 rfl ?_
  refine v_callVi (As := []) (rest := []) lk_X4_48 (c_X4_sign az sz nu fa st fd hf hfd tx htx (by omega)) dX4_parseSingle_1 rfl (ltn rfl) rfl rfl (Nat.le_of_ble_eq_true rfl) (by decide) ?_
  refine v_istore_n (lv2 := [(2, .int (nxt tx fd az)), (0, .ref (g.1 + 15)), (1, .int 1)]) dX4_parseSingle_4 rfl (by decide) rfl ?_
  refine v_iload_n dX4_parseSingle_5 rfl 0 rfl ?_
  refine v_bipush (v := 33) dX4_parseSingle_6 (by decide) ?_
  refine v_icmp_eq (tgt := 22) dX4_parseSingle_8 (by decide) (fun h2 => ?_) (fun h2 => ?_)
  · refine v_iload_n dX4_parseSingle_22 rfl 2 rfl ?_
    refine v_iconst (v := 4) dX4_parseSingle_23 (by decide) ?_
    refine v_icmp_lt (tgt := 29) dX4_parseSingle_24 (by decide) (fun _ => ?_) (fun h3 => by first | exact absurd h3 (by decide) | exact absurd (by decide) h3)
    refine v_aload_n dX4_parseSingle_29 rfl 1 rfl ?_
    refine v_dup dX4_parseSingle_30 rfl ?_
    refine v_get (v := .int ((rI I (nI az) (nI sz) nu fa st) 15 1)) fa_X4_20 dX4_parseSingle_31 rfl (by decide) (ltn rfl) rfl ?_
    refine v_is (y := nI az) (by rfl) ?_
    refine v_iconst (v := 1) dX4_parseSingle_34 (by decide) ?_
    refine v_iadd dX4_parseSingle_35 ?_
    refine v_is (nx_add rfl rfl) ?_
    refine v_puti pa_X4_20 dX4_parseSingle_36 rfl (by decide) (ltn rfl) (by show 1 < 7; decide) rfl ?_
    refine v_I (I2 := (rI I (nI (az + 1)) (nI sz) nu fa st)) (by first | rfl | (simp only [rI_a, rI_sc, rI_nu, rI_fa, rI_st]; done)) ?_
    have hlt := nxt_eq h2 (by decide)
    refine v_iload_n dX4_parseSingle_39 rfl 0 rfl ?_
    refine v_bipush (v := 40) dX4_parseSingle_40 (by decide) ?_
    refine v_icmp_ne (tgt := 70) dX4_parseSingle_42 (by decide) (fun _ => ?_) (fun hx => absurd (h2.symm.trans hx) (by decide))
    refine v_aload_n dX4_parseSingle_70 rfl 1 rfl ?_
    refine v_iload_n dX4_parseSingle_71 rfl 2 rfl ?_
    refine v_iconst (v := 1) dX4_parseSingle_72 (by decide) ?_
    refine v_iadd dX4_parseSingle_73 ?_
    refine v_is (nx_add rfl rfl) ?_
    refine v_callPs (As := [.int (nI (1 + 1))]) (rest := []) lk_X4_76 (c_sng_2 (az + 1) sz nu fa st fd hf hfd tx htx (by omega) (by omega)) dX4_parseSingle_74 rfl (ltn rfl) rfl rfl (Nat.le_of_ble_eq_true rfl) (by decide) (fun s5 ng6 tg7 ho8 => ?_)
    refine v_ifb_ne (tgt := 82) dX4_parseSingle_77 (by decide) (fun h9 => ?_) (fun h9 => ?_)
    · -- ((sngR tx fd 2 (az + 1)).2.isSome = true)
      obtain ⟨co, hc⟩ := Option.isSome_iff_exists.mp h9
      obtain ⟨rfl, rfl⟩ := ho8 co hc
      have hq1 := sng_len 2 (az + 1) (sngR tx fd 2 (az + 1)).1 co (Prod.ext rfl hc)
      have hq2 := sng_in (tx := tx) (fd := fd) 2 (az + 1) (by omega)
      refine v_aload_n dX4_parseSingle_82 rfl 1 rfl ?_
      refine v_iconst (v := 0) dX4_parseSingle_83 (by decide) ?_
      refine v_iconst (v := 0) dX4_parseSingle_84 (by decide) ?_
      refine v_callVv (As := [.int 0, .int 0]) (rest := []) lk_X4_72 (c_X4_addStep 0 0 ((sngR tx fd 2 (az + 1)).1) (sz + co.length) ng6 fa (putL st sz (co.map ccd)) fd hf hfd tx htx (by omega)) dX4_parseSingle_85 rfl (ltn rfl) rfl rfl (Nat.le_of_ble_eq_true rfl) (by decide) ?_
      refine v_I (I2 := (rI I (nI (sngR tx fd 2 (az + 1)).1) (nI (sz + (co ++ [Tk_no]).length)) ng6 fa (putL st sz ((co ++ [Tk_no]).map ccd)))) (by rw [ptc_one co Tk_no ccd_no, sz_one co Tk_no]) ?_
      refine v_iconst (v := 1) dX4_parseSingle_88 (by decide) ?_
      exact v_zret hr dX4_parseSingle_89 (by first | rfl | exact nbq) (by (rw [sng_not h2, notR_yes hc]; exact pps_some))
    · -- not ((sngR tx fd 2 (az + 1)).2.isSome = true)
      refine v_iconst (v := 0) dX4_parseSingle_80 (by decide) ?_
      exact v_zret hr dX4_parseSingle_81 (by first | rfl | exact nbq) (by (rw [sng_not h2, notR_no h9]; exact pps_none))
  · refine v_iload_n dX4_parseSingle_11 rfl 0 rfl ?_
    refine v_bipush (v := 40) dX4_parseSingle_12 (by decide) ?_
    refine v_icmp_eq (tgt := 22) dX4_parseSingle_14 (by decide) (fun h11 => ?_) (fun h11 => ?_)
    · refine v_iload_n dX4_parseSingle_22 rfl 2 rfl ?_
      refine v_iconst (v := 4) dX4_parseSingle_23 (by decide) ?_
      refine v_icmp_lt (tgt := 29) dX4_parseSingle_24 (by decide) (fun _ => ?_) (fun h12 => by first | exact absurd h12 (by decide) | exact absurd (by decide) h12)
      refine v_aload_n dX4_parseSingle_29 rfl 1 rfl ?_
      refine v_dup dX4_parseSingle_30 rfl ?_
      refine v_get (v := .int ((rI I (nI az) (nI sz) nu fa st) 15 1)) fa_X4_20 dX4_parseSingle_31 rfl (by decide) (ltn rfl) rfl ?_
      refine v_is (y := nI az) (by rfl) ?_
      refine v_iconst (v := 1) dX4_parseSingle_34 (by decide) ?_
      refine v_iadd dX4_parseSingle_35 ?_
      refine v_is (nx_add rfl rfl) ?_
      refine v_puti pa_X4_20 dX4_parseSingle_36 rfl (by decide) (ltn rfl) (by show 1 < 7; decide) rfl ?_
      refine v_I (I2 := (rI I (nI (az + 1)) (nI sz) nu fa st)) (by first | rfl | (simp only [rI_a, rI_sc, rI_nu, rI_fa, rI_st]; done)) ?_
      have hlt := nxt_eq h11 (by decide)
      refine v_iload_n dX4_parseSingle_39 rfl 0 rfl ?_
      refine v_bipush (v := 40) dX4_parseSingle_40 (by decide) ?_
      refine v_icmp_ne (tgt := 70) dX4_parseSingle_42 (by decide) (fun hx => absurd h11 hx) (fun _ => ?_)
      refine v_aload_n dX4_parseSingle_45 rfl 1 rfl ?_
      refine v_iload_n dX4_parseSingle_46 rfl 2 rfl ?_
      refine v_iconst (v := 1) dX4_parseSingle_47 (by decide) ?_
      refine v_iadd dX4_parseSingle_48 ?_
      refine v_is (nx_add rfl rfl) ?_
      refine v_callPs (As := [.int (nI (1 + 1))]) (rest := []) lk_X4_68 (c_ei_2 (az + 1) sz nu fa st fd hf hfd tx htx (by omega) (by omega)) dX4_parseSingle_49 rfl (ltn rfl) rfl rfl (Nat.le_of_ble_eq_true rfl) (by decide) (fun s14 ng15 tg16 ho17 => ?_)
      refine v_ifb_eq (tgt := 68) dX4_parseSingle_52 (by decide) (fun h18 => ?_) (fun h18 => ?_)
      · -- not ((eiL tx fd (sngR tx fd 2) 100 false false (az + 1) []).2.isSome = true)
        refine v_iconst (v := 0) dX4_parseSingle_68 (by decide) ?_
        exact v_zret hr dX4_parseSingle_69 (by first | rfl | exact nbq) (by (rw [sng_par h11, parR_no h18]; exact pps_none))
      · -- ((eiL tx fd (sngR tx fd 2) 100 false false (az + 1) []).2.isSome = true)
        obtain ⟨co, hc⟩ := Option.isSome_iff_exists.mp h18
        obtain ⟨rfl, rfl⟩ := ho17 co hc
        have hq2 := eiL_in (tx := tx) (sng_in (tx := tx) (fd := fd) 2) 100 false false (az + 1) [] (by omega)
        refine v_aload_n dX4_parseSingle_55 rfl 1 rfl ?_
        refine v_bipush (v := 41) dX4_parseSingle_56 (by decide) ?_
        refine v_callVi (As := [.int 41]) (rest := []) lk_X4_33 (c_X4_takeSign 41 ((eiL tx fd (sngR tx fd 2) 100 false false (az + 1) []).1) (sz + co.length) ng15 fa (putL st sz (co.map ccd)) fd hf hfd tx htx (by omega)) dX4_parseSingle_58 rfl (ltn rfl) rfl rfl (Nat.le_of_ble_eq_true rfl) (by decide) ?_
        refine v_ifb_eq (tgt := 68) dX4_parseSingle_61 (by decide) (fun h19 => ?_) (fun h19 => ?_)
        · -- not (nxt tx fd ((eiL tx fd (sngR tx fd 2) 100 false false (az + 1) []).1) = 41)
          refine v_I (I2 := (rI I (nI (eiL tx fd (sngR tx fd 2) 100 false false (az + 1) []).1) (nI (sz + co.length)) ng15 fa (putL st sz (co.map ccd)))) (by rw [ifc_f h19]) ?_
          refine v_iconst (v := 0) dX4_parseSingle_68 (by decide) ?_
          exact v_zret hr dX4_parseSingle_69 (by first | rfl | exact nbq) (by (rw [sng_par h11, parR_f hc h19]; exact pps_none))
        · -- (nxt tx fd ((eiL tx fd (sngR tx fd 2) 100 false false (az + 1) []).1) = 41)
          refine v_I (I2 := (rI I (nI ((eiL tx fd (sngR tx fd 2) 100 false false (az + 1) []).1 + 1)) (nI (sz + co.length)) ng15 fa (putL st sz (co.map ccd)))) (by rw [ifc_t h19]) ?_
          refine v_iconst (v := 1) dX4_parseSingle_64 (by decide) ?_
          refine v_goto (tgt := 69) dX4_parseSingle_65 (by decide) ?_
          exact v_zret hr dX4_parseSingle_69 (by first | rfl | exact nbq) (by (rw [sng_par h11, parR_t hc h19]; exact pps_some))
    · refine v_aload_n dX4_parseSingle_17 rfl 1 rfl ?_
      refine v_callVi (As := []) (rest := []) lk_X4_79 (c_X4_parseTest az sz nu fa st fd hf hfd tx htx (by omega) (by omega)) dX4_parseSingle_18 rfl (ltn rfl) rfl rfl (Nat.le_of_ble_eq_true rfl) (by decide) ?_
      exact v_zret hr dX4_parseSingle_21 (by first | rfl | exact nbq) (by (rw [sngT h2 h11]; exact pps_tst))
set_option maxRecDepth 100000 in
set_option maxHeartbeats 2000000 in
theorem c_ei_3 {g : Gl} {I : Ty} {L : TL} {na nt ni m : Nat} {nl : Nat → Nat}  (az sz : Nat) (nu fa : Int32) (st : Nat → Int32) (fd : Nat) (hf : fd ≤ 100) (hfd : I 15 0 = nI fd) (tx : Nat → Int32) (htx : I 16 = tx) (ha : az ≤ fd) (hs : sz ≤ az) : Ct g yX4_parseEither cX4_parseEither 5 (some .boolean) 13 0 0 [.ref (g.1 + 15), .int 1] (rI I (nI az) (nI sz) nu fa st) L (RT na nt ni) (NT nl) (NB + m) (Pps I L (RT na nt ni) (NT nl) (NB + m) sz fa st (eiL tx fd (sngR tx fd 3) 100 false false az [])) := by
  refine ct_of (by decide +kernel) (Nat.le_of_ble_eq_true rfl) (fun F hnm hr => ?_)
  clear hnm
  show V g F cX4_parseEither RX4 5 13 0 [(0, .ref (g.1 + 15)), (1, .int 1)] [] (rI I (nI az) (nI sz) nu fa st) L (RT na nt ni) (NT nl) (NB + m) 0 0
  have b2t : b2n true = 1 := rfl
  have b2f : b2n false = 0 := rfl
  have key : ∀ kz, ∀ (iz : Nat) (ei bo : Bool) (ag : Nat) (out : List Tk) (ng : Int32), iz + kz = 100 → sz + out.length + b2n bo + b2n ei ≤ ag → ag ≤ fd → eiL tx fd (sngR tx fd 3) kz ei bo ag out = eiL tx fd (sngR tx fd 3) 100 false false az [] → V g F cX4_parseEither RX4 5 13 7 [(4, .int (nI iz)), (3, .int (bb bo)), (2, .int (bb ei)), (0, .ref (g.1 + 15)), (1, .int 1)] [] (rI I (nI ag) (nI (sz + out.length)) ng fa (putL st sz (out.map ccd))) L (RT na nt ni) (NT nl) (NB + m) 0 0 := by
    intro kz
    induction kz with
    | zero =>
      intro iz ei bo ag out ng hik hinv hag hZ
      refine v_iload dX4_parseEither_7 0 rfl ?_
      refine v_bipush (v := 100) dX4_parseEither_9 (by decide) ?_
      refine v_icmp_geN (a := iz) (b := 100) (tgt := 77) dX4_parseEither_11 (by decide) rfl rfl (by omega) (by omega) (fun h1 => ?_) (fun h => by exfalso; omega)
      refine v_iconst (v := 0) dX4_parseEither_77 (by decide) ?_
      exact v_zret hr dX4_parseEither_78 (by first | rfl | exact nbq) (by (rw [← hZ]; exact pps_none))
    | succ kz ih =>
      intro iz ei bo ag out ng hik hinv hag hZ
      refine v_iload dX4_parseEither_7 0 rfl ?_
      refine v_bipush (v := 100) dX4_parseEither_9 (by decide) ?_
      refine v_icmp_geN (a := iz) (b := 100) (tgt := 77) dX4_parseEither_11 (by decide) rfl rfl (by omega) (by omega) (fun h => by exfalso; omega) (fun h2 => ?_)
      refine v_aload_n dX4_parseEither_14 rfl 3 rfl ?_
      refine v_iload_n dX4_parseEither_15 rfl 4 rfl ?_
      refine v_callPs (As := [.int 1]) (rest := []) lk_X4_76 (c_sng_3 ag (sz + out.length) ng fa (putL st sz (out.map ccd)) fd hf hfd tx htx (by omega) (by omega)) dX4_parseEither_16 rfl (ltn rfl) rfl rfl (Nat.le_of_ble_eq_true rfl) (by decide) (fun s3 ng4 tg5 ho6 => ?_)
      refine v_ifb_ne (tgt := 24) dX4_parseEither_19 (by decide) (fun h7 => ?_) (fun h7 => ?_)
      · -- ((sngR tx fd 3 ag).2.isSome = true)
        obtain ⟨co, hc⟩ := Option.isSome_iff_exists.mp h7
        obtain ⟨rfl, rfl⟩ := ho6 co hc
        have hq1 := sng_len 3 ag (sngR tx fd 3 ag).1 co (Prod.ext rfl hc)
        have hq2 := sng_in (tx := tx) (fd := fd) 3 ag hag
        have hl2 : (out ++ co).length = out.length + co.length := List.length_append
        refine v_I (I2 := (rI I (nI (sngR tx fd 3 ag).1) (nI (sz + (out ++ co).length)) ng4 fa (putL st sz ((out ++ co).map ccd)))) (by rw [ptc_app, sz_app]) ?_
        cases bo with
        | false =>
          show V g F cX4_parseEither RX4 5 13 24 [(4, .int (nI iz)), (3, .int 0), (2, .int (bb ei)), (0, .ref (g.1 + 15)), (1, .int 1)] [] (rI I (nI (sngR tx fd 3 ag).1) (nI (sz + (out ++ co).length)) ng4 fa (putL st sz ((out ++ co).map ccd))) L (RT na nt ni) (NT nl) (NB + m) 0 0
          refine v_iload_n dX4_parseEither_24 rfl 1 rfl ?_
          refine v_if_eq (tgt := 34) dX4_parseEither_25 (by decide) (fun _ => ?_) (fun h8 => by first | exact absurd h8 (by decide) | exact absurd (by decide) h8)
          refine v_I (I2 := (rI I (nI (sngR tx fd 3 ag).1) (nI (sz + ((out ++ co) ++ anL false).length)) ng4 fa (putL st sz (((out ++ co) ++ anL false).map ccd)))) (by rw [show anL false = [] from rfl, List.append_nil]) ?_
          have hl3 : ((out ++ co) ++ anL false).length = out.length + co.length + b2n false := by rw [List.length_append, List.length_append, anL_len]
          refine v_aload_n dX4_parseEither_34 rfl 3 rfl ?_
          refine v_bipush (v := 38) dX4_parseEither_35 (by decide) ?_
          refine v_callVi (As := [.int 38]) (rest := []) lk_X4_33 (c_X4_takeSign 38 ((sngR tx fd 3 ag).1) (sz + ((out ++ co) ++ anL false).length) ng4 fa (putL st sz (((out ++ co) ++ anL false).map ccd)) fd hf hfd tx htx (by omega)) dX4_parseEither_37 rfl (ltn rfl) rfl rfl (Nat.le_of_ble_eq_true rfl) (by decide) ?_
          refine v_istore_n (lv2 := [(3, .int (bq (nxt tx fd ((sngR tx fd 3 ag).1) = 38))), (4, .int (nI iz)), (2, .int (bb ei)), (0, .ref (g.1 + 15)), (1, .int 1)]) dX4_parseEither_40 rfl (by decide) rfl ?_
          refine v_iload_n dX4_parseEither_41 rfl 0 rfl ?_
          refine v_ifb_eq (tgt := 48) dX4_parseEither_42 (by decide) (fun h9 => ?_) (fun h9 => ?_)
          · -- not (nxt tx fd ((sngR tx fd 3 ag).1) = 38)
            refine v_I (I2 := (rI I (nI (sngR tx fd 3 ag).1) (nI (sz + ((out ++ co) ++ anL false).length)) ng4 fa (putL st sz (((out ++ co) ++ anL false).map ccd)))) (by rw [ifc_f h9]) ?_
            cases ei with
            | false =>
              show V g F cX4_parseEither RX4 5 13 48 [(3, .int (bq (nxt tx fd ((sngR tx fd 3 ag).1) = 38))), (4, .int (nI iz)), (2, .int 0), (0, .ref (g.1 + 15)), (1, .int 1)] [] (rI I (nI (sngR tx fd 3 ag).1) (nI (sz + ((out ++ co) ++ anL false).length)) ng4 fa (putL st sz (((out ++ co) ++ anL false).map ccd))) L (RT na nt ni) (NT nl) (NB + m) 0 0
              refine v_iload_n dX4_parseEither_48 rfl 2 rfl ?_
              refine v_if_eq (tgt := 58) dX4_parseEither_49 (by decide) (fun _ => ?_) (fun h10 => by first | exact absurd h10 (by decide) | exact absurd (by decide) h10)
              refine v_I (I2 := (rI I (nI (sngR tx fd 3 ag).1) (nI (sz + (((out ++ co) ++ anL false) ++ eoL false).length)) ng4 fa (putL st sz ((((out ++ co) ++ anL false) ++ eoL false).map ccd)))) (by rw [show eoL false = [] from rfl, List.append_nil]) ?_
              have hl4 : (((out ++ co) ++ anL false) ++ eoL false).length = out.length + co.length + b2n false + b2n false := by rw [List.length_append, hl3, eoL_len]
              refine v_aload_n dX4_parseEither_58 rfl 3 rfl ?_
              refine v_bipush (v := 124) dX4_parseEither_59 (by decide) ?_
              refine v_callVi (As := [.int 124]) (rest := []) lk_X4_33 (c_X4_takeSign 124 ((sngR tx fd 3 ag).1) (sz + (((out ++ co) ++ anL false) ++ eoL false).length) ng4 fa (putL st sz ((((out ++ co) ++ anL false) ++ eoL false).map ccd)) fd hf hfd tx htx (by omega)) dX4_parseEither_61 rfl (ltn rfl) rfl rfl (Nat.le_of_ble_eq_true rfl) (by decide) ?_
              refine v_istore_n (lv2 := [(2, .int (bq (nxt tx fd ((sngR tx fd 3 ag).1) = 124))), (3, .int (bq (nxt tx fd ((sngR tx fd 3 ag).1) = 38))), (4, .int (nI iz)), (0, .ref (g.1 + 15)), (1, .int 1)]) dX4_parseEither_64 rfl (by decide) rfl ?_
              refine v_iload_n dX4_parseEither_65 rfl 0 rfl ?_
              refine v_ifb_ne (tgt := 71) dX4_parseEither_66 (by decide) (fun h11 => ?_) (fun h11 => ?_)
              · -- (nxt tx fd ((sngR tx fd 3 ag).1) = 124)
                have hlq := nxt_eq h11 (by decide)
                refine v_I (I2 := (rI I (nI ((sngR tx fd 3 ag).1 + 1)) (nI (sz + (((out ++ co) ++ anL false) ++ eoL false).length)) ng4 fa (putL st sz ((((out ++ co) ++ anL false) ++ eoL false).map ccd)))) (by rw [ifc_t h11]) ?_
                refine v_inc (v := nI (iz + 1)) (lv2 := [(4, .int (nI (iz + 1))), (2, .int (bq (nxt tx fd ((sngR tx fd 3 ag).1) = 124))), (3, .int (bq (nxt tx fd ((sngR tx fd 3 ag).1) = 38))), (0, .ref (g.1 + 15)), (1, .int 1)]) dX4_parseEither_71 2 rfl (nx_inc rfl) (by decide) rfl ?_
                refine v_goto (tgt := 7) dX4_parseEither_74 (by decide) ?_
                refine v_sub (lv2 := [(4, .int (nI (iz + 1))), (3, .int (bq (nxt tx fd ((sngR tx fd 3 ag).1) = 38))), (2, .int (bq (nxt tx fd ((sngR tx fd 3 ag).1) = 124))), (0, .ref (g.1 + 15)), (1, .int 1)]) [0, 2, 1, 3, 4] rfl ?_
                refine v_lv (lv2 := [(4, .int (nI (iz + 1))), (3, .int (bb false)), (2, .int (bb true)), (0, .ref (g.1 + 15)), (1, .int 1)]) (by rw [bq_t h11, bq_f h9]; rfl) ?_
                exact ih (iz + 1) true false _ _ _ (by omega) (by rw [show b2n true = 1 from rfl, show b2n false = 0 from rfl]; omega) (by omega) (by rw [← hZ, eiL_eo hc h9 h11])
              · -- not (nxt tx fd ((sngR tx fd 3 ag).1) = 124)
                refine v_I (I2 := (rI I (nI (sngR tx fd 3 ag).1) (nI (sz + (((out ++ co) ++ anL false) ++ eoL false).length)) ng4 fa (putL st sz ((((out ++ co) ++ anL false) ++ eoL false).map ccd)))) (by rw [ifc_f h11]) ?_
                refine v_iconst (v := 1) dX4_parseEither_69 (by decide) ?_
                exact v_zret hr dX4_parseEither_70 (by first | rfl | exact nbq) (by (rw [← hZ, eiL_end hc h9 h11]; exact pps_some))
            | true =>
              show V g F cX4_parseEither RX4 5 13 48 [(3, .int (bq (nxt tx fd ((sngR tx fd 3 ag).1) = 38))), (4, .int (nI iz)), (2, .int 1), (0, .ref (g.1 + 15)), (1, .int 1)] [] (rI I (nI (sngR tx fd 3 ag).1) (nI (sz + ((out ++ co) ++ anL false).length)) ng4 fa (putL st sz (((out ++ co) ++ anL false).map ccd))) L (RT na nt ni) (NT nl) (NB + m) 0 0
              refine v_iload_n dX4_parseEither_48 rfl 2 rfl ?_
              refine v_if_eq (tgt := 58) dX4_parseEither_49 (by decide) (fun h12 => by first | exact absurd h12 (by decide) | exact absurd (by decide) h12) (fun _ => ?_)
              refine v_aload_n dX4_parseEither_52 rfl 3 rfl ?_
              refine v_iconst (v := 2) dX4_parseEither_53 (by decide) ?_
              refine v_iconst (v := 0) dX4_parseEither_54 (by decide) ?_
              refine v_callVv (As := [.int 2, .int 0]) (rest := []) lk_X4_72 (c_X4_addStep 2 0 ((sngR tx fd 3 ag).1) (sz + ((out ++ co) ++ anL false).length) ng4 fa (putL st sz (((out ++ co) ++ anL false).map ccd)) fd hf hfd tx htx (by omega)) dX4_parseEither_55 rfl (ltn rfl) rfl rfl (Nat.le_of_ble_eq_true rfl) (by decide) ?_
              refine v_I (I2 := (rI I (nI (sngR tx fd 3 ag).1) (nI (sz + (((out ++ co) ++ anL false) ++ eoL true).length)) ng4 fa (putL st sz ((((out ++ co) ++ anL false) ++ eoL true).map ccd)))) (by rw [ptc_one _ Tk_eo ccd_eo, sz_one _ Tk_eo]; rfl) ?_
              have hl4 : (((out ++ co) ++ anL false) ++ eoL true).length = out.length + co.length + b2n false + b2n true := by rw [List.length_append, hl3, eoL_len]
              refine v_aload_n dX4_parseEither_58 rfl 3 rfl ?_
              refine v_bipush (v := 124) dX4_parseEither_59 (by decide) ?_
              refine v_callVi (As := [.int 124]) (rest := []) lk_X4_33 (c_X4_takeSign 124 ((sngR tx fd 3 ag).1) (sz + (((out ++ co) ++ anL false) ++ eoL true).length) ng4 fa (putL st sz ((((out ++ co) ++ anL false) ++ eoL true).map ccd)) fd hf hfd tx htx (by omega)) dX4_parseEither_61 rfl (ltn rfl) rfl rfl (Nat.le_of_ble_eq_true rfl) (by decide) ?_
              refine v_istore_n (lv2 := [(2, .int (bq (nxt tx fd ((sngR tx fd 3 ag).1) = 124))), (3, .int (bq (nxt tx fd ((sngR tx fd 3 ag).1) = 38))), (4, .int (nI iz)), (0, .ref (g.1 + 15)), (1, .int 1)]) dX4_parseEither_64 rfl (by decide) rfl ?_
              refine v_iload_n dX4_parseEither_65 rfl 0 rfl ?_
              refine v_ifb_ne (tgt := 71) dX4_parseEither_66 (by decide) (fun h13 => ?_) (fun h13 => ?_)
              · -- (nxt tx fd ((sngR tx fd 3 ag).1) = 124)
                have hlq := nxt_eq h13 (by decide)
                refine v_I (I2 := (rI I (nI ((sngR tx fd 3 ag).1 + 1)) (nI (sz + (((out ++ co) ++ anL false) ++ eoL true).length)) ng4 fa (putL st sz ((((out ++ co) ++ anL false) ++ eoL true).map ccd)))) (by rw [ifc_t h13]) ?_
                refine v_inc (v := nI (iz + 1)) (lv2 := [(4, .int (nI (iz + 1))), (2, .int (bq (nxt tx fd ((sngR tx fd 3 ag).1) = 124))), (3, .int (bq (nxt tx fd ((sngR tx fd 3 ag).1) = 38))), (0, .ref (g.1 + 15)), (1, .int 1)]) dX4_parseEither_71 2 rfl (nx_inc rfl) (by decide) rfl ?_
                refine v_goto (tgt := 7) dX4_parseEither_74 (by decide) ?_
                refine v_sub (lv2 := [(4, .int (nI (iz + 1))), (3, .int (bq (nxt tx fd ((sngR tx fd 3 ag).1) = 38))), (2, .int (bq (nxt tx fd ((sngR tx fd 3 ag).1) = 124))), (0, .ref (g.1 + 15)), (1, .int 1)]) [0, 2, 1, 3, 4] rfl ?_
                refine v_lv (lv2 := [(4, .int (nI (iz + 1))), (3, .int (bb false)), (2, .int (bb true)), (0, .ref (g.1 + 15)), (1, .int 1)]) (by rw [bq_t h13, bq_f h9]; rfl) ?_
                exact ih (iz + 1) true false _ _ _ (by omega) (by rw [show b2n true = 1 from rfl, show b2n false = 0 from rfl]; omega) (by omega) (by rw [← hZ, eiL_eo hc h9 h13])
              · -- not (nxt tx fd ((sngR tx fd 3 ag).1) = 124)
                refine v_I (I2 := (rI I (nI (sngR tx fd 3 ag).1) (nI (sz + (((out ++ co) ++ anL false) ++ eoL true).length)) ng4 fa (putL st sz ((((out ++ co) ++ anL false) ++ eoL true).map ccd)))) (by rw [ifc_f h13]) ?_
                refine v_iconst (v := 1) dX4_parseEither_69 (by decide) ?_
                exact v_zret hr dX4_parseEither_70 (by first | rfl | exact nbq) (by (rw [← hZ, eiL_end hc h9 h13]; exact pps_some))
          · -- (nxt tx fd ((sngR tx fd 3 ag).1) = 38)
            have hlq := nxt_eq h9 (by decide)
            refine v_I (I2 := (rI I (nI ((sngR tx fd 3 ag).1 + 1)) (nI (sz + ((out ++ co) ++ anL false).length)) ng4 fa (putL st sz (((out ++ co) ++ anL false).map ccd)))) (by rw [ifc_t h9]) ?_
            refine v_goto (tgt := 71) dX4_parseEither_45 (by decide) ?_
            refine v_inc (v := nI (iz + 1)) (lv2 := [(4, .int (nI (iz + 1))), (3, .int (bq (nxt tx fd ((sngR tx fd 3 ag).1) = 38))), (2, .int (bb ei)), (0, .ref (g.1 + 15)), (1, .int 1)]) dX4_parseEither_71 1 rfl (nx_inc rfl) (by decide) rfl ?_
            refine v_goto (tgt := 7) dX4_parseEither_74 (by decide) ?_
            refine v_lv (lv2 := [(4, .int (nI (iz + 1))), (3, .int (bb true)), (2, .int (bb ei)), (0, .ref (g.1 + 15)), (1, .int 1)]) (by rw [bq_t h9]; rfl) ?_
            exact ih (iz + 1) ei true _ _ _ (by omega) (by rw [show b2n true = 1 from rfl]; omega) (by omega) (by rw [← hZ, eiL_an hc h9])
        | true =>
          show V g F cX4_parseEither RX4 5 13 24 [(4, .int (nI iz)), (3, .int 1), (2, .int (bb ei)), (0, .ref (g.1 + 15)), (1, .int 1)] [] (rI I (nI (sngR tx fd 3 ag).1) (nI (sz + (out ++ co).length)) ng4 fa (putL st sz ((out ++ co).map ccd))) L (RT na nt ni) (NT nl) (NB + m) 0 0
          refine v_iload_n dX4_parseEither_24 rfl 1 rfl ?_
          refine v_if_eq (tgt := 34) dX4_parseEither_25 (by decide) (fun h14 => by first | exact absurd h14 (by decide) | exact absurd (by decide) h14) (fun _ => ?_)
          refine v_aload_n dX4_parseEither_28 rfl 3 rfl ?_
          refine v_iconst (v := 1) dX4_parseEither_29 (by decide) ?_
          refine v_iconst (v := 0) dX4_parseEither_30 (by decide) ?_
          refine v_callVv (As := [.int 1, .int 0]) (rest := []) lk_X4_72 (c_X4_addStep 1 0 ((sngR tx fd 3 ag).1) (sz + (out ++ co).length) ng4 fa (putL st sz ((out ++ co).map ccd)) fd hf hfd tx htx (by omega)) dX4_parseEither_31 rfl (ltn rfl) rfl rfl (Nat.le_of_ble_eq_true rfl) (by decide) ?_
          refine v_I (I2 := (rI I (nI (sngR tx fd 3 ag).1) (nI (sz + ((out ++ co) ++ anL true).length)) ng4 fa (putL st sz (((out ++ co) ++ anL true).map ccd)))) (by rw [ptc_one _ Tk_an ccd_an, sz_one _ Tk_an]; rfl) ?_
          have hl3 : ((out ++ co) ++ anL true).length = out.length + co.length + b2n true := by rw [List.length_append, List.length_append, anL_len]
          refine v_aload_n dX4_parseEither_34 rfl 3 rfl ?_
          refine v_bipush (v := 38) dX4_parseEither_35 (by decide) ?_
          refine v_callVi (As := [.int 38]) (rest := []) lk_X4_33 (c_X4_takeSign 38 ((sngR tx fd 3 ag).1) (sz + ((out ++ co) ++ anL true).length) ng4 fa (putL st sz (((out ++ co) ++ anL true).map ccd)) fd hf hfd tx htx (by omega)) dX4_parseEither_37 rfl (ltn rfl) rfl rfl (Nat.le_of_ble_eq_true rfl) (by decide) ?_
          refine v_istore_n (lv2 := [(3, .int (bq (nxt tx fd ((sngR tx fd 3 ag).1) = 38))), (4, .int (nI iz)), (2, .int (bb ei)), (0, .ref (g.1 + 15)), (1, .int 1)]) dX4_parseEither_40 rfl (by decide) rfl ?_
          refine v_iload_n dX4_parseEither_41 rfl 0 rfl ?_
          refine v_ifb_eq (tgt := 48) dX4_parseEither_42 (by decide) (fun h15 => ?_) (fun h15 => ?_)
          · -- not (nxt tx fd ((sngR tx fd 3 ag).1) = 38)
            refine v_I (I2 := (rI I (nI (sngR tx fd 3 ag).1) (nI (sz + ((out ++ co) ++ anL true).length)) ng4 fa (putL st sz (((out ++ co) ++ anL true).map ccd)))) (by rw [ifc_f h15]) ?_
            cases ei with
            | false =>
              show V g F cX4_parseEither RX4 5 13 48 [(3, .int (bq (nxt tx fd ((sngR tx fd 3 ag).1) = 38))), (4, .int (nI iz)), (2, .int 0), (0, .ref (g.1 + 15)), (1, .int 1)] [] (rI I (nI (sngR tx fd 3 ag).1) (nI (sz + ((out ++ co) ++ anL true).length)) ng4 fa (putL st sz (((out ++ co) ++ anL true).map ccd))) L (RT na nt ni) (NT nl) (NB + m) 0 0
              refine v_iload_n dX4_parseEither_48 rfl 2 rfl ?_
              refine v_if_eq (tgt := 58) dX4_parseEither_49 (by decide) (fun _ => ?_) (fun h16 => by first | exact absurd h16 (by decide) | exact absurd (by decide) h16)
              refine v_I (I2 := (rI I (nI (sngR tx fd 3 ag).1) (nI (sz + (((out ++ co) ++ anL true) ++ eoL false).length)) ng4 fa (putL st sz ((((out ++ co) ++ anL true) ++ eoL false).map ccd)))) (by rw [show eoL false = [] from rfl, List.append_nil]) ?_
              have hl4 : (((out ++ co) ++ anL true) ++ eoL false).length = out.length + co.length + b2n true + b2n false := by rw [List.length_append, hl3, eoL_len]
              refine v_aload_n dX4_parseEither_58 rfl 3 rfl ?_
              refine v_bipush (v := 124) dX4_parseEither_59 (by decide) ?_
              refine v_callVi (As := [.int 124]) (rest := []) lk_X4_33 (c_X4_takeSign 124 ((sngR tx fd 3 ag).1) (sz + (((out ++ co) ++ anL true) ++ eoL false).length) ng4 fa (putL st sz ((((out ++ co) ++ anL true) ++ eoL false).map ccd)) fd hf hfd tx htx (by omega)) dX4_parseEither_61 rfl (ltn rfl) rfl rfl (Nat.le_of_ble_eq_true rfl) (by decide) ?_
              refine v_istore_n (lv2 := [(2, .int (bq (nxt tx fd ((sngR tx fd 3 ag).1) = 124))), (3, .int (bq (nxt tx fd ((sngR tx fd 3 ag).1) = 38))), (4, .int (nI iz)), (0, .ref (g.1 + 15)), (1, .int 1)]) dX4_parseEither_64 rfl (by decide) rfl ?_
              refine v_iload_n dX4_parseEither_65 rfl 0 rfl ?_
              refine v_ifb_ne (tgt := 71) dX4_parseEither_66 (by decide) (fun h17 => ?_) (fun h17 => ?_)
              · -- (nxt tx fd ((sngR tx fd 3 ag).1) = 124)
                have hlq := nxt_eq h17 (by decide)
                refine v_I (I2 := (rI I (nI ((sngR tx fd 3 ag).1 + 1)) (nI (sz + (((out ++ co) ++ anL true) ++ eoL false).length)) ng4 fa (putL st sz ((((out ++ co) ++ anL true) ++ eoL false).map ccd)))) (by rw [ifc_t h17]) ?_
                refine v_inc (v := nI (iz + 1)) (lv2 := [(4, .int (nI (iz + 1))), (2, .int (bq (nxt tx fd ((sngR tx fd 3 ag).1) = 124))), (3, .int (bq (nxt tx fd ((sngR tx fd 3 ag).1) = 38))), (0, .ref (g.1 + 15)), (1, .int 1)]) dX4_parseEither_71 2 rfl (nx_inc rfl) (by decide) rfl ?_
                refine v_goto (tgt := 7) dX4_parseEither_74 (by decide) ?_
                refine v_sub (lv2 := [(4, .int (nI (iz + 1))), (3, .int (bq (nxt tx fd ((sngR tx fd 3 ag).1) = 38))), (2, .int (bq (nxt tx fd ((sngR tx fd 3 ag).1) = 124))), (0, .ref (g.1 + 15)), (1, .int 1)]) [0, 2, 1, 3, 4] rfl ?_
                refine v_lv (lv2 := [(4, .int (nI (iz + 1))), (3, .int (bb false)), (2, .int (bb true)), (0, .ref (g.1 + 15)), (1, .int 1)]) (by rw [bq_t h17, bq_f h15]; rfl) ?_
                exact ih (iz + 1) true false _ _ _ (by omega) (by rw [show b2n true = 1 from rfl, show b2n false = 0 from rfl]; omega) (by omega) (by rw [← hZ, eiL_eo hc h15 h17])
              · -- not (nxt tx fd ((sngR tx fd 3 ag).1) = 124)
                refine v_I (I2 := (rI I (nI (sngR tx fd 3 ag).1) (nI (sz + (((out ++ co) ++ anL true) ++ eoL false).length)) ng4 fa (putL st sz ((((out ++ co) ++ anL true) ++ eoL false).map ccd)))) (by rw [ifc_f h17]) ?_
                refine v_iconst (v := 1) dX4_parseEither_69 (by decide) ?_
                exact v_zret hr dX4_parseEither_70 (by first | rfl | exact nbq) (by (rw [← hZ, eiL_end hc h15 h17]; exact pps_some))
            | true =>
              show V g F cX4_parseEither RX4 5 13 48 [(3, .int (bq (nxt tx fd ((sngR tx fd 3 ag).1) = 38))), (4, .int (nI iz)), (2, .int 1), (0, .ref (g.1 + 15)), (1, .int 1)] [] (rI I (nI (sngR tx fd 3 ag).1) (nI (sz + ((out ++ co) ++ anL true).length)) ng4 fa (putL st sz (((out ++ co) ++ anL true).map ccd))) L (RT na nt ni) (NT nl) (NB + m) 0 0
              refine v_iload_n dX4_parseEither_48 rfl 2 rfl ?_
              refine v_if_eq (tgt := 58) dX4_parseEither_49 (by decide) (fun h18 => by first | exact absurd h18 (by decide) | exact absurd (by decide) h18) (fun _ => ?_)
              refine v_aload_n dX4_parseEither_52 rfl 3 rfl ?_
              refine v_iconst (v := 2) dX4_parseEither_53 (by decide) ?_
              refine v_iconst (v := 0) dX4_parseEither_54 (by decide) ?_
              refine v_callVv (As := [.int 2, .int 0]) (rest := []) lk_X4_72 (c_X4_addStep 2 0 ((sngR tx fd 3 ag).1) (sz + ((out ++ co) ++ anL true).length) ng4 fa (putL st sz (((out ++ co) ++ anL true).map ccd)) fd hf hfd tx htx (by omega)) dX4_parseEither_55 rfl (ltn rfl) rfl rfl (Nat.le_of_ble_eq_true rfl) (by decide) ?_
              refine v_I (I2 := (rI I (nI (sngR tx fd 3 ag).1) (nI (sz + (((out ++ co) ++ anL true) ++ eoL true).length)) ng4 fa (putL st sz ((((out ++ co) ++ anL true) ++ eoL true).map ccd)))) (by rw [ptc_one _ Tk_eo ccd_eo, sz_one _ Tk_eo]; rfl) ?_
              have hl4 : (((out ++ co) ++ anL true) ++ eoL true).length = out.length + co.length + b2n true + b2n true := by rw [List.length_append, hl3, eoL_len]
              refine v_aload_n dX4_parseEither_58 rfl 3 rfl ?_
              refine v_bipush (v := 124) dX4_parseEither_59 (by decide) ?_
              refine v_callVi (As := [.int 124]) (rest := []) lk_X4_33 (c_X4_takeSign 124 ((sngR tx fd 3 ag).1) (sz + (((out ++ co) ++ anL true) ++ eoL true).length) ng4 fa (putL st sz ((((out ++ co) ++ anL true) ++ eoL true).map ccd)) fd hf hfd tx htx (by omega)) dX4_parseEither_61 rfl (ltn rfl) rfl rfl (Nat.le_of_ble_eq_true rfl) (by decide) ?_
              refine v_istore_n (lv2 := [(2, .int (bq (nxt tx fd ((sngR tx fd 3 ag).1) = 124))), (3, .int (bq (nxt tx fd ((sngR tx fd 3 ag).1) = 38))), (4, .int (nI iz)), (0, .ref (g.1 + 15)), (1, .int 1)]) dX4_parseEither_64 rfl (by decide) rfl ?_
              refine v_iload_n dX4_parseEither_65 rfl 0 rfl ?_
              refine v_ifb_ne (tgt := 71) dX4_parseEither_66 (by decide) (fun h19 => ?_) (fun h19 => ?_)
              · -- (nxt tx fd ((sngR tx fd 3 ag).1) = 124)
                have hlq := nxt_eq h19 (by decide)
                refine v_I (I2 := (rI I (nI ((sngR tx fd 3 ag).1 + 1)) (nI (sz + (((out ++ co) ++ anL true) ++ eoL true).length)) ng4 fa (putL st sz ((((out ++ co) ++ anL true) ++ eoL true).map ccd)))) (by rw [ifc_t h19]) ?_
                refine v_inc (v := nI (iz + 1)) (lv2 := [(4, .int (nI (iz + 1))), (2, .int (bq (nxt tx fd ((sngR tx fd 3 ag).1) = 124))), (3, .int (bq (nxt tx fd ((sngR tx fd 3 ag).1) = 38))), (0, .ref (g.1 + 15)), (1, .int 1)]) dX4_parseEither_71 2 rfl (nx_inc rfl) (by decide) rfl ?_
                refine v_goto (tgt := 7) dX4_parseEither_74 (by decide) ?_
                refine v_sub (lv2 := [(4, .int (nI (iz + 1))), (3, .int (bq (nxt tx fd ((sngR tx fd 3 ag).1) = 38))), (2, .int (bq (nxt tx fd ((sngR tx fd 3 ag).1) = 124))), (0, .ref (g.1 + 15)), (1, .int 1)]) [0, 2, 1, 3, 4] rfl ?_
                refine v_lv (lv2 := [(4, .int (nI (iz + 1))), (3, .int (bb false)), (2, .int (bb true)), (0, .ref (g.1 + 15)), (1, .int 1)]) (by rw [bq_t h19, bq_f h15]; rfl) ?_
                exact ih (iz + 1) true false _ _ _ (by omega) (by rw [show b2n true = 1 from rfl, show b2n false = 0 from rfl]; omega) (by omega) (by rw [← hZ, eiL_eo hc h15 h19])
              · -- not (nxt tx fd ((sngR tx fd 3 ag).1) = 124)
                refine v_I (I2 := (rI I (nI (sngR tx fd 3 ag).1) (nI (sz + (((out ++ co) ++ anL true) ++ eoL true).length)) ng4 fa (putL st sz ((((out ++ co) ++ anL true) ++ eoL true).map ccd)))) (by rw [ifc_f h19]) ?_
                refine v_iconst (v := 1) dX4_parseEither_69 (by decide) ?_
                exact v_zret hr dX4_parseEither_70 (by first | rfl | exact nbq) (by (rw [← hZ, eiL_end hc h15 h19]; exact pps_some))
          · -- (nxt tx fd ((sngR tx fd 3 ag).1) = 38)
            have hlq := nxt_eq h15 (by decide)
            refine v_I (I2 := (rI I (nI ((sngR tx fd 3 ag).1 + 1)) (nI (sz + ((out ++ co) ++ anL true).length)) ng4 fa (putL st sz (((out ++ co) ++ anL true).map ccd)))) (by rw [ifc_t h15]) ?_
            refine v_goto (tgt := 71) dX4_parseEither_45 (by decide) ?_
            refine v_inc (v := nI (iz + 1)) (lv2 := [(4, .int (nI (iz + 1))), (3, .int (bq (nxt tx fd ((sngR tx fd 3 ag).1) = 38))), (2, .int (bb ei)), (0, .ref (g.1 + 15)), (1, .int 1)]) dX4_parseEither_71 1 rfl (nx_inc rfl) (by decide) rfl ?_
            refine v_goto (tgt := 7) dX4_parseEither_74 (by decide) ?_
            refine v_lv (lv2 := [(4, .int (nI (iz + 1))), (3, .int (bb true)), (2, .int (bb ei)), (0, .ref (g.1 + 15)), (1, .int 1)]) (by rw [bq_t h15]; rfl) ?_
            exact ih (iz + 1) ei true _ _ _ (by omega) (by rw [show b2n true = 1 from rfl]; omega) (by omega) (by rw [← hZ, eiL_an hc h15])
      · -- not ((sngR tx fd 3 ag).2.isSome = true)
        refine v_iconst (v := 0) dX4_parseEither_22 (by decide) ?_
        exact v_zret hr dX4_parseEither_23 (by first | rfl | exact nbq) (by (rw [← hZ, eiL_no h7]; exact pps_none))
  refine v_iconst (v := 0) dX4_parseEither_0 (by decide) ?_
  refine v_istore_n (lv2 := [(2, .int 0), (0, .ref (g.1 + 15)), (1, .int 1)]) dX4_parseEither_1 rfl (by decide) rfl ?_
  refine v_iconst (v := 0) dX4_parseEither_2 (by decide) ?_
  refine v_istore_n (lv2 := [(3, .int 0), (2, .int 0), (0, .ref (g.1 + 15)), (1, .int 1)]) dX4_parseEither_3 rfl (by decide) rfl ?_
  refine v_iconst (v := 0) dX4_parseEither_4 (by decide) ?_
  refine v_istore (lv2 := [(4, .int 0), (3, .int 0), (2, .int 0), (0, .ref (g.1 + 15)), (1, .int 1)]) dX4_parseEither_5 (by decide) rfl ?_
  refine v_lv (lv2 := [(4, .int (nI 0)), (3, .int (bb false)), (2, .int (bb false)), (0, .ref (g.1 + 15)), (1, .int 1)]) (by rfl) ?_
  refine v_I (I2 := (rI I (nI az) (nI (sz + ([] : List Tk).length)) nu fa (putL st sz (([] : List Tk).map ccd)))) (by rfl) ?_
  exact key 100 0 false false az [] nu rfl (by show sz + 0 + 0 + 0 ≤ az; omega) ha rfl
set_option maxRecDepth 100000 in
set_option maxHeartbeats 1000000 in
theorem c_sng_4 {g : Gl} {I : Ty} {L : TL} {na nt ni m : Nat} {nl : Nat → Nat}  (az sz : Nat) (nu fa : Int32) (st : Nat → Int32) (fd : Nat) (hf : fd ≤ 100) (hfd : I 15 0 = nI fd) (tx : Nat → Int32) (htx : I 16 = tx) (ha : az ≤ fd) (hs : sz ≤ az) : Ct g yX4_parseSingle cX4_parseSingle 3 (some .boolean) 14 0 0 [.ref (g.1 + 15), .int 0] (rI I (nI az) (nI sz) nu fa st) L (RT na nt ni) (NT nl) (NB + m) (Pps I L (RT na nt ni) (NT nl) (NB + m) sz fa st (sngR tx fd 4 az)) := by
  refine ct_of (by decide +kernel) (Nat.le_of_ble_eq_true rfl) (fun F hnm hr => ?_)
  clear hnm
  show V g F cX4_parseSingle RX4 3 14 0 [(0, .ref (g.1 + 15)), (1, .int 0)] [] (rI I (nI az) (nI sz) nu fa st) L (RT na nt ni) (NT nl) (NB + m) 0 0
  refine v_aload_n dX4_parseSingle_0 rfl 0 rfl ?_
  refine v_callVi (As := []) (rest := []) lk_X4_48 (c_X4_sign az sz nu fa st fd hf hfd tx htx (by omega)) dX4_parseSingle_1 rfl (ltn rfl) rfl rfl (Nat.le_of_ble_eq_true rfl) (by decide) ?_
  refine v_istore_n (lv2 := [(2, .int (nxt tx fd az)), (0, .ref (g.1 + 15)), (1, .int 0)]) dX4_parseSingle_4 rfl (by decide) rfl ?_
  refine v_iload_n dX4_parseSingle_5 rfl 0 rfl ?_
  refine v_bipush (v := 33) dX4_parseSingle_6 (by decide) ?_
  refine v_icmp_eq (tgt := 22) dX4_parseSingle_8 (by decide) (fun h2 => ?_) (fun h2 => ?_)
  · refine v_iload_n dX4_parseSingle_22 rfl 2 rfl ?_
    refine v_iconst (v := 4) dX4_parseSingle_23 (by decide) ?_
    refine v_icmp_lt (tgt := 29) dX4_parseSingle_24 (by decide) (fun _ => ?_) (fun h3 => by first | exact absurd h3 (by decide) | exact absurd (by decide) h3)
    refine v_aload_n dX4_parseSingle_29 rfl 1 rfl ?_
    refine v_dup dX4_parseSingle_30 rfl ?_
    refine v_get (v := .int ((rI I (nI az) (nI sz) nu fa st) 15 1)) fa_X4_20 dX4_parseSingle_31 rfl (by decide) (ltn rfl) rfl ?_
    refine v_is (y := nI az) (by rfl) ?_
    refine v_iconst (v := 1) dX4_parseSingle_34 (by decide) ?_
    refine v_iadd dX4_parseSingle_35 ?_
    refine v_is (nx_add rfl rfl) ?_
    refine v_puti pa_X4_20 dX4_parseSingle_36 rfl (by decide) (ltn rfl) (by show 1 < 7; decide) rfl ?_
    refine v_I (I2 := (rI I (nI (az + 1)) (nI sz) nu fa st)) (by first | rfl | (simp only [rI_a, rI_sc, rI_nu, rI_fa, rI_st]; done)) ?_
    have hlt := nxt_eq h2 (by decide)
    refine v_iload_n dX4_parseSingle_39 rfl 0 rfl ?_
    refine v_bipush (v := 40) dX4_parseSingle_40 (by decide) ?_
    refine v_icmp_ne (tgt := 70) dX4_parseSingle_42 (by decide) (fun _ => ?_) (fun hx => absurd (h2.symm.trans hx) (by decide))
    refine v_aload_n dX4_parseSingle_70 rfl 1 rfl ?_
    refine v_iload_n dX4_parseSingle_71 rfl 2 rfl ?_
    refine v_iconst (v := 1) dX4_parseSingle_72 (by decide) ?_
    refine v_iadd dX4_parseSingle_73 ?_
    refine v_is (nx_add rfl rfl) ?_
    refine v_callPs (As := [.int (nI (0 + 1))]) (rest := []) lk_X4_76 (c_sng_3 (az + 1) sz nu fa st fd hf hfd tx htx (by omega) (by omega)) dX4_parseSingle_74 rfl (ltn rfl) rfl rfl (Nat.le_of_ble_eq_true rfl) (by decide) (fun s5 ng6 tg7 ho8 => ?_)
    refine v_ifb_ne (tgt := 82) dX4_parseSingle_77 (by decide) (fun h9 => ?_) (fun h9 => ?_)
    · -- ((sngR tx fd 3 (az + 1)).2.isSome = true)
      obtain ⟨co, hc⟩ := Option.isSome_iff_exists.mp h9
      obtain ⟨rfl, rfl⟩ := ho8 co hc
      have hq1 := sng_len 3 (az + 1) (sngR tx fd 3 (az + 1)).1 co (Prod.ext rfl hc)
      have hq2 := sng_in (tx := tx) (fd := fd) 3 (az + 1) (by omega)
      refine v_aload_n dX4_parseSingle_82 rfl 1 rfl ?_
      refine v_iconst (v := 0) dX4_parseSingle_83 (by decide) ?_
      refine v_iconst (v := 0) dX4_parseSingle_84 (by decide) ?_
      refine v_callVv (As := [.int 0, .int 0]) (rest := []) lk_X4_72 (c_X4_addStep 0 0 ((sngR tx fd 3 (az + 1)).1) (sz + co.length) ng6 fa (putL st sz (co.map ccd)) fd hf hfd tx htx (by omega)) dX4_parseSingle_85 rfl (ltn rfl) rfl rfl (Nat.le_of_ble_eq_true rfl) (by decide) ?_
      refine v_I (I2 := (rI I (nI (sngR tx fd 3 (az + 1)).1) (nI (sz + (co ++ [Tk_no]).length)) ng6 fa (putL st sz ((co ++ [Tk_no]).map ccd)))) (by rw [ptc_one co Tk_no ccd_no, sz_one co Tk_no]) ?_
      refine v_iconst (v := 1) dX4_parseSingle_88 (by decide) ?_
      exact v_zret hr dX4_parseSingle_89 (by first | rfl | exact nbq) (by (rw [sng_not h2, notR_yes hc]; exact pps_some))
    · -- not ((sngR tx fd 3 (az + 1)).2.isSome = true)
      refine v_iconst (v := 0) dX4_parseSingle_80 (by decide) ?_
      exact v_zret hr dX4_parseSingle_81 (by first | rfl | exact nbq) (by (rw [sng_not h2, notR_no h9]; exact pps_none))
  · refine v_iload_n dX4_parseSingle_11 rfl 0 rfl ?_
    refine v_bipush (v := 40) dX4_parseSingle_12 (by decide) ?_
    refine v_icmp_eq (tgt := 22) dX4_parseSingle_14 (by decide) (fun h11 => ?_) (fun h11 => ?_)
    · refine v_iload_n dX4_parseSingle_22 rfl 2 rfl ?_
      refine v_iconst (v := 4) dX4_parseSingle_23 (by decide) ?_
      refine v_icmp_lt (tgt := 29) dX4_parseSingle_24 (by decide) (fun _ => ?_) (fun h12 => by first | exact absurd h12 (by decide) | exact absurd (by decide) h12)
      refine v_aload_n dX4_parseSingle_29 rfl 1 rfl ?_
      refine v_dup dX4_parseSingle_30 rfl ?_
      refine v_get (v := .int ((rI I (nI az) (nI sz) nu fa st) 15 1)) fa_X4_20 dX4_parseSingle_31 rfl (by decide) (ltn rfl) rfl ?_
      refine v_is (y := nI az) (by rfl) ?_
      refine v_iconst (v := 1) dX4_parseSingle_34 (by decide) ?_
      refine v_iadd dX4_parseSingle_35 ?_
      refine v_is (nx_add rfl rfl) ?_
      refine v_puti pa_X4_20 dX4_parseSingle_36 rfl (by decide) (ltn rfl) (by show 1 < 7; decide) rfl ?_
      refine v_I (I2 := (rI I (nI (az + 1)) (nI sz) nu fa st)) (by first | rfl | (simp only [rI_a, rI_sc, rI_nu, rI_fa, rI_st]; done)) ?_
      have hlt := nxt_eq h11 (by decide)
      refine v_iload_n dX4_parseSingle_39 rfl 0 rfl ?_
      refine v_bipush (v := 40) dX4_parseSingle_40 (by decide) ?_
      refine v_icmp_ne (tgt := 70) dX4_parseSingle_42 (by decide) (fun hx => absurd h11 hx) (fun _ => ?_)
      refine v_aload_n dX4_parseSingle_45 rfl 1 rfl ?_
      refine v_iload_n dX4_parseSingle_46 rfl 2 rfl ?_
      refine v_iconst (v := 1) dX4_parseSingle_47 (by decide) ?_
      refine v_iadd dX4_parseSingle_48 ?_
      refine v_is (nx_add rfl rfl) ?_
      refine v_callPs (As := [.int (nI (0 + 1))]) (rest := []) lk_X4_68 (c_ei_3 (az + 1) sz nu fa st fd hf hfd tx htx (by omega) (by omega)) dX4_parseSingle_49 rfl (ltn rfl) rfl rfl (Nat.le_of_ble_eq_true rfl) (by decide) (fun s14 ng15 tg16 ho17 => ?_)
      refine v_ifb_eq (tgt := 68) dX4_parseSingle_52 (by decide) (fun h18 => ?_) (fun h18 => ?_)
      · -- not ((eiL tx fd (sngR tx fd 3) 100 false false (az + 1) []).2.isSome = true)
        refine v_iconst (v := 0) dX4_parseSingle_68 (by decide) ?_
        exact v_zret hr dX4_parseSingle_69 (by first | rfl | exact nbq) (by (rw [sng_par h11, parR_no h18]; exact pps_none))
      · -- ((eiL tx fd (sngR tx fd 3) 100 false false (az + 1) []).2.isSome = true)
        obtain ⟨co, hc⟩ := Option.isSome_iff_exists.mp h18
        obtain ⟨rfl, rfl⟩ := ho17 co hc
        have hq2 := eiL_in (tx := tx) (sng_in (tx := tx) (fd := fd) 3) 100 false false (az + 1) [] (by omega)
        refine v_aload_n dX4_parseSingle_55 rfl 1 rfl ?_
        refine v_bipush (v := 41) dX4_parseSingle_56 (by decide) ?_
        refine v_callVi (As := [.int 41]) (rest := []) lk_X4_33 (c_X4_takeSign 41 ((eiL tx fd (sngR tx fd 3) 100 false false (az + 1) []).1) (sz + co.length) ng15 fa (putL st sz (co.map ccd)) fd hf hfd tx htx (by omega)) dX4_parseSingle_58 rfl (ltn rfl) rfl rfl (Nat.le_of_ble_eq_true rfl) (by decide) ?_
        refine v_ifb_eq (tgt := 68) dX4_parseSingle_61 (by decide) (fun h19 => ?_) (fun h19 => ?_)
        · -- not (nxt tx fd ((eiL tx fd (sngR tx fd 3) 100 false false (az + 1) []).1) = 41)
          refine v_I (I2 := (rI I (nI (eiL tx fd (sngR tx fd 3) 100 false false (az + 1) []).1) (nI (sz + co.length)) ng15 fa (putL st sz (co.map ccd)))) (by rw [ifc_f h19]) ?_
          refine v_iconst (v := 0) dX4_parseSingle_68 (by decide) ?_
          exact v_zret hr dX4_parseSingle_69 (by first | rfl | exact nbq) (by (rw [sng_par h11, parR_f hc h19]; exact pps_none))
        · -- (nxt tx fd ((eiL tx fd (sngR tx fd 3) 100 false false (az + 1) []).1) = 41)
          refine v_I (I2 := (rI I (nI ((eiL tx fd (sngR tx fd 3) 100 false false (az + 1) []).1 + 1)) (nI (sz + co.length)) ng15 fa (putL st sz (co.map ccd)))) (by rw [ifc_t h19]) ?_
          refine v_iconst (v := 1) dX4_parseSingle_64 (by decide) ?_
          refine v_goto (tgt := 69) dX4_parseSingle_65 (by decide) ?_
          exact v_zret hr dX4_parseSingle_69 (by first | rfl | exact nbq) (by (rw [sng_par h11, parR_t hc h19]; exact pps_some))
    · refine v_aload_n dX4_parseSingle_17 rfl 1 rfl ?_
      refine v_callVi (As := []) (rest := []) lk_X4_79 (c_X4_parseTest az sz nu fa st fd hf hfd tx htx (by omega) (by omega)) dX4_parseSingle_18 rfl (ltn rfl) rfl rfl (Nat.le_of_ble_eq_true rfl) (by decide) ?_
      exact v_zret hr dX4_parseSingle_21 (by first | rfl | exact nbq) (by (rw [sngT h2 h11]; exact pps_tst))
set_option maxRecDepth 100000 in
set_option maxHeartbeats 2000000 in
theorem c_ei_4 {g : Gl} {I : Ty} {L : TL} {na nt ni m : Nat} {nl : Nat → Nat}  (az sz : Nat) (nu fa : Int32) (st : Nat → Int32) (fd : Nat) (hf : fd ≤ 100) (hfd : I 15 0 = nI fd) (tx : Nat → Int32) (htx : I 16 = tx) (ha : az ≤ fd) (hs : sz ≤ az) : Ct g yX4_parseEither cX4_parseEither 5 (some .boolean) 15 0 0 [.ref (g.1 + 15), .int 0] (rI I (nI az) (nI sz) nu fa st) L (RT na nt ni) (NT nl) (NB + m) (Pps I L (RT na nt ni) (NT nl) (NB + m) sz fa st (eiL tx fd (sngR tx fd 4) 100 false false az [])) := by
  refine ct_of (by decide +kernel) (Nat.le_of_ble_eq_true rfl) (fun F hnm hr => ?_)
  clear hnm
  show V g F cX4_parseEither RX4 5 15 0 [(0, .ref (g.1 + 15)), (1, .int 0)] [] (rI I (nI az) (nI sz) nu fa st) L (RT na nt ni) (NT nl) (NB + m) 0 0
  have b2t : b2n true = 1 := rfl
  have b2f : b2n false = 0 := rfl
  have key : ∀ kz, ∀ (iz : Nat) (ei bo : Bool) (ag : Nat) (out : List Tk) (ng : Int32), iz + kz = 100 → sz + out.length + b2n bo + b2n ei ≤ ag → ag ≤ fd → eiL tx fd (sngR tx fd 4) kz ei bo ag out = eiL tx fd (sngR tx fd 4) 100 false false az [] → V g F cX4_parseEither RX4 5 15 7 [(4, .int (nI iz)), (3, .int (bb bo)), (2, .int (bb ei)), (0, .ref (g.1 + 15)), (1, .int 0)] [] (rI I (nI ag) (nI (sz + out.length)) ng fa (putL st sz (out.map ccd))) L (RT na nt ni) (NT nl) (NB + m) 0 0 := by
    intro kz
    induction kz with
    | zero =>
      intro iz ei bo ag out ng hik hinv hag hZ
      refine v_iload dX4_parseEither_7 0 rfl ?_
      refine v_bipush (v := 100) dX4_parseEither_9 (by decide) ?_
      refine v_icmp_geN (a := iz) (b := 100) (tgt := 77) dX4_parseEither_11 (by decide) rfl rfl (by omega) (by omega) (fun h1 => ?_) (fun h => by exfalso; omega)
      refine v_iconst (v := 0) dX4_parseEither_77 (by decide) ?_
      exact v_zret hr dX4_parseEither_78 (by first | rfl | exact nbq) (by (rw [← hZ]; exact pps_none))
    | succ kz ih =>
      intro iz ei bo ag out ng hik hinv hag hZ
      refine v_iload dX4_parseEither_7 0 rfl ?_
      refine v_bipush (v := 100) dX4_parseEither_9 (by decide) ?_
      refine v_icmp_geN (a := iz) (b := 100) (tgt := 77) dX4_parseEither_11 (by decide) rfl rfl (by omega) (by omega) (fun h => by exfalso; omega) (fun h2 => ?_)
      refine v_aload_n dX4_parseEither_14 rfl 3 rfl ?_
      refine v_iload_n dX4_parseEither_15 rfl 4 rfl ?_
      refine v_callPs (As := [.int 0]) (rest := []) lk_X4_76 (c_sng_4 ag (sz + out.length) ng fa (putL st sz (out.map ccd)) fd hf hfd tx htx (by omega) (by omega)) dX4_parseEither_16 rfl (ltn rfl) rfl rfl (Nat.le_of_ble_eq_true rfl) (by decide) (fun s3 ng4 tg5 ho6 => ?_)
      refine v_ifb_ne (tgt := 24) dX4_parseEither_19 (by decide) (fun h7 => ?_) (fun h7 => ?_)
      · -- ((sngR tx fd 4 ag).2.isSome = true)
        obtain ⟨co, hc⟩ := Option.isSome_iff_exists.mp h7
        obtain ⟨rfl, rfl⟩ := ho6 co hc
        have hq1 := sng_len 4 ag (sngR tx fd 4 ag).1 co (Prod.ext rfl hc)
        have hq2 := sng_in (tx := tx) (fd := fd) 4 ag hag
        have hl2 : (out ++ co).length = out.length + co.length := List.length_append
        refine v_I (I2 := (rI I (nI (sngR tx fd 4 ag).1) (nI (sz + (out ++ co).length)) ng4 fa (putL st sz ((out ++ co).map ccd)))) (by rw [ptc_app, sz_app]) ?_
        cases bo with
        | false =>
          show V g F cX4_parseEither RX4 5 15 24 [(4, .int (nI iz)), (3, .int 0), (2, .int (bb ei)), (0, .ref (g.1 + 15)), (1, .int 0)] [] (rI I (nI (sngR tx fd 4 ag).1) (nI (sz + (out ++ co).length)) ng4 fa (putL st sz ((out ++ co).map ccd))) L (RT na nt ni) (NT nl) (NB + m) 0 0
          refine v_iload_n dX4_parseEither_24 rfl 1 rfl ?_
          refine v_if_eq (tgt := 34) dX4_parseEither_25 (by decide) (fun _ => ?_) (fun h8 => by first | exact absurd h8 (by decide) | exact absurd (by decide) h8)
          refine v_I (I2 := (rI I (nI (sngR tx fd 4 ag).1) (nI (sz + ((out ++ co) ++ anL false).length)) ng4 fa (putL st sz (((out ++ co) ++ anL false).map ccd)))) (by rw [show anL false = [] from rfl, List.append_nil]) ?_
          have hl3 : ((out ++ co) ++ anL false).length = out.length + co.length + b2n false := by rw [List.length_append, List.length_append, anL_len]
          refine v_aload_n dX4_parseEither_34 rfl 3 rfl ?_
          refine v_bipush (v := 38) dX4_parseEither_35 (by decide) ?_
          refine v_callVi (As := [.int 38]) (rest := []) lk_X4_33 (c_X4_takeSign 38 ((sngR tx fd 4 ag).1) (sz + ((out ++ co) ++ anL false).length) ng4 fa (putL st sz (((out ++ co) ++ anL false).map ccd)) fd hf hfd tx htx (by omega)) dX4_parseEither_37 rfl (ltn rfl) rfl rfl (Nat.le_of_ble_eq_true rfl) (by decide) ?_
          refine v_istore_n (lv2 := [(3, .int (bq (nxt tx fd ((sngR tx fd 4 ag).1) = 38))), (4, .int (nI iz)), (2, .int (bb ei)), (0, .ref (g.1 + 15)), (1, .int 0)]) dX4_parseEither_40 rfl (by decide) rfl ?_
          refine v_iload_n dX4_parseEither_41 rfl 0 rfl ?_
          refine v_ifb_eq (tgt := 48) dX4_parseEither_42 (by decide) (fun h9 => ?_) (fun h9 => ?_)
          · -- not (nxt tx fd ((sngR tx fd 4 ag).1) = 38)
            refine v_I (I2 := (rI I (nI (sngR tx fd 4 ag).1) (nI (sz + ((out ++ co) ++ anL false).length)) ng4 fa (putL st sz (((out ++ co) ++ anL false).map ccd)))) (by rw [ifc_f h9]) ?_
            cases ei with
            | false =>
              show V g F cX4_parseEither RX4 5 15 48 [(3, .int (bq (nxt tx fd ((sngR tx fd 4 ag).1) = 38))), (4, .int (nI iz)), (2, .int 0), (0, .ref (g.1 + 15)), (1, .int 0)] [] (rI I (nI (sngR tx fd 4 ag).1) (nI (sz + ((out ++ co) ++ anL false).length)) ng4 fa (putL st sz (((out ++ co) ++ anL false).map ccd))) L (RT na nt ni) (NT nl) (NB + m) 0 0
              refine v_iload_n dX4_parseEither_48 rfl 2 rfl ?_
              refine v_if_eq (tgt := 58) dX4_parseEither_49 (by decide) (fun _ => ?_) (fun h10 => by first | exact absurd h10 (by decide) | exact absurd (by decide) h10)
              refine v_I (I2 := (rI I (nI (sngR tx fd 4 ag).1) (nI (sz + (((out ++ co) ++ anL false) ++ eoL false).length)) ng4 fa (putL st sz ((((out ++ co) ++ anL false) ++ eoL false).map ccd)))) (by rw [show eoL false = [] from rfl, List.append_nil]) ?_
              have hl4 : (((out ++ co) ++ anL false) ++ eoL false).length = out.length + co.length + b2n false + b2n false := by rw [List.length_append, hl3, eoL_len]
              refine v_aload_n dX4_parseEither_58 rfl 3 rfl ?_
              refine v_bipush (v := 124) dX4_parseEither_59 (by decide) ?_
              refine v_callVi (As := [.int 124]) (rest := []) lk_X4_33 (c_X4_takeSign 124 ((sngR tx fd 4 ag).1) (sz + (((out ++ co) ++ anL false) ++ eoL false).length) ng4 fa (putL st sz ((((out ++ co) ++ anL false) ++ eoL false).map ccd)) fd hf hfd tx htx (by omega)) dX4_parseEither_61 rfl (ltn rfl) rfl rfl (Nat.le_of_ble_eq_true rfl) (by decide) ?_
              refine v_istore_n (lv2 := [(2, .int (bq (nxt tx fd ((sngR tx fd 4 ag).1) = 124))), (3, .int (bq (nxt tx fd ((sngR tx fd 4 ag).1) = 38))), (4, .int (nI iz)), (0, .ref (g.1 + 15)), (1, .int 0)]) dX4_parseEither_64 rfl (by decide) rfl ?_
              refine v_iload_n dX4_parseEither_65 rfl 0 rfl ?_
              refine v_ifb_ne (tgt := 71) dX4_parseEither_66 (by decide) (fun h11 => ?_) (fun h11 => ?_)
              · -- (nxt tx fd ((sngR tx fd 4 ag).1) = 124)
                have hlq := nxt_eq h11 (by decide)
                refine v_I (I2 := (rI I (nI ((sngR tx fd 4 ag).1 + 1)) (nI (sz + (((out ++ co) ++ anL false) ++ eoL false).length)) ng4 fa (putL st sz ((((out ++ co) ++ anL false) ++ eoL false).map ccd)))) (by rw [ifc_t h11]) ?_
                refine v_inc (v := nI (iz + 1)) (lv2 := [(4, .int (nI (iz + 1))), (2, .int (bq (nxt tx fd ((sngR tx fd 4 ag).1) = 124))), (3, .int (bq (nxt tx fd ((sngR tx fd 4 ag).1) = 38))), (0, .ref (g.1 + 15)), (1, .int 0)]) dX4_parseEither_71 2 rfl (nx_inc rfl) (by decide) rfl ?_
                refine v_goto (tgt := 7) dX4_parseEither_74 (by decide) ?_
                refine v_sub (lv2 := [(4, .int (nI (iz + 1))), (3, .int (bq (nxt tx fd ((sngR tx fd 4 ag).1) = 38))), (2, .int (bq (nxt tx fd ((sngR tx fd 4 ag).1) = 124))), (0, .ref (g.1 + 15)), (1, .int 0)]) [0, 2, 1, 3, 4] rfl ?_
                refine v_lv (lv2 := [(4, .int (nI (iz + 1))), (3, .int (bb false)), (2, .int (bb true)), (0, .ref (g.1 + 15)), (1, .int 0)]) (by rw [bq_t h11, bq_f h9]; rfl) ?_
                exact ih (iz + 1) true false _ _ _ (by omega) (by rw [show b2n true = 1 from rfl, show b2n false = 0 from rfl]; omega) (by omega) (by rw [← hZ, eiL_eo hc h9 h11])
              · -- not (nxt tx fd ((sngR tx fd 4 ag).1) = 124)
                refine v_I (I2 := (rI I (nI (sngR tx fd 4 ag).1) (nI (sz + (((out ++ co) ++ anL false) ++ eoL false).length)) ng4 fa (putL st sz ((((out ++ co) ++ anL false) ++ eoL false).map ccd)))) (by rw [ifc_f h11]) ?_
                refine v_iconst (v := 1) dX4_parseEither_69 (by decide) ?_
                exact v_zret hr dX4_parseEither_70 (by first | rfl | exact nbq) (by (rw [← hZ, eiL_end hc h9 h11]; exact pps_some))
            | true =>
              show V g F cX4_parseEither RX4 5 15 48 [(3, .int (bq (nxt tx fd ((sngR tx fd 4 ag).1) = 38))), (4, .int (nI iz)), (2, .int 1), (0, .ref (g.1 + 15)), (1, .int 0)] [] (rI I (nI (sngR tx fd 4 ag).1) (nI (sz + ((out ++ co) ++ anL false).length)) ng4 fa (putL st sz (((out ++ co) ++ anL false).map ccd))) L (RT na nt ni) (NT nl) (NB + m) 0 0
              refine v_iload_n dX4_parseEither_48 rfl 2 rfl ?_
              refine v_if_eq (tgt := 58) dX4_parseEither_49 (by decide) (fun h12 => by first | exact absurd h12 (by decide) | exact absurd (by decide) h12) (fun _ => ?_)
              refine v_aload_n dX4_parseEither_52 rfl 3 rfl ?_
              refine v_iconst (v := 2) dX4_parseEither_53 (by decide) ?_
              refine v_iconst (v := 0) dX4_parseEither_54 (by decide) ?_
              refine v_callVv (As := [.int 2, .int 0]) (rest := []) lk_X4_72 (c_X4_addStep 2 0 ((sngR tx fd 4 ag).1) (sz + ((out ++ co) ++ anL false).length) ng4 fa (putL st sz (((out ++ co) ++ anL false).map ccd)) fd hf hfd tx htx (by omega)) dX4_parseEither_55 rfl (ltn rfl) rfl rfl (Nat.le_of_ble_eq_true rfl) (by decide) ?_
              refine v_I (I2 := (rI I (nI (sngR tx fd 4 ag).1) (nI (sz + (((out ++ co) ++ anL false) ++ eoL true).length)) ng4 fa (putL st sz ((((out ++ co) ++ anL false) ++ eoL true).map ccd)))) (by rw [ptc_one _ Tk_eo ccd_eo, sz_one _ Tk_eo]; rfl) ?_
              have hl4 : (((out ++ co) ++ anL false) ++ eoL true).length = out.length + co.length + b2n false + b2n true := by rw [List.length_append, hl3, eoL_len]
              refine v_aload_n dX4_parseEither_58 rfl 3 rfl ?_
              refine v_bipush (v := 124) dX4_parseEither_59 (by decide) ?_
              refine v_callVi (As := [.int 124]) (rest := []) lk_X4_33 (c_X4_takeSign 124 ((sngR tx fd 4 ag).1) (sz + (((out ++ co) ++ anL false) ++ eoL true).length) ng4 fa (putL st sz ((((out ++ co) ++ anL false) ++ eoL true).map ccd)) fd hf hfd tx htx (by omega)) dX4_parseEither_61 rfl (ltn rfl) rfl rfl (Nat.le_of_ble_eq_true rfl) (by decide) ?_
              refine v_istore_n (lv2 := [(2, .int (bq (nxt tx fd ((sngR tx fd 4 ag).1) = 124))), (3, .int (bq (nxt tx fd ((sngR tx fd 4 ag).1) = 38))), (4, .int (nI iz)), (0, .ref (g.1 + 15)), (1, .int 0)]) dX4_parseEither_64 rfl (by decide) rfl ?_
              refine v_iload_n dX4_parseEither_65 rfl 0 rfl ?_
              refine v_ifb_ne (tgt := 71) dX4_parseEither_66 (by decide) (fun h13 => ?_) (fun h13 => ?_)
              · -- (nxt tx fd ((sngR tx fd 4 ag).1) = 124)
                have hlq := nxt_eq h13 (by decide)
                refine v_I (I2 := (rI I (nI ((sngR tx fd 4 ag).1 + 1)) (nI (sz + (((out ++ co) ++ anL false) ++ eoL true).length)) ng4 fa (putL st sz ((((out ++ co) ++ anL false) ++ eoL true).map ccd)))) (by rw [ifc_t h13]) ?_
                refine v_inc (v := nI (iz + 1)) (lv2 := [(4, .int (nI (iz + 1))), (2, .int (bq (nxt tx fd ((sngR tx fd 4 ag).1) = 124))), (3, .int (bq (nxt tx fd ((sngR tx fd 4 ag).1) = 38))), (0, .ref (g.1 + 15)), (1, .int 0)]) dX4_parseEither_71 2 rfl (nx_inc rfl) (by decide) rfl ?_
                refine v_goto (tgt := 7) dX4_parseEither_74 (by decide) ?_
                refine v_sub (lv2 := [(4, .int (nI (iz + 1))), (3, .int (bq (nxt tx fd ((sngR tx fd 4 ag).1) = 38))), (2, .int (bq (nxt tx fd ((sngR tx fd 4 ag).1) = 124))), (0, .ref (g.1 + 15)), (1, .int 0)]) [0, 2, 1, 3, 4] rfl ?_
                refine v_lv (lv2 := [(4, .int (nI (iz + 1))), (3, .int (bb false)), (2, .int (bb true)), (0, .ref (g.1 + 15)), (1, .int 0)]) (by rw [bq_t h13, bq_f h9]; rfl) ?_
                exact ih (iz + 1) true false _ _ _ (by omega) (by rw [show b2n true = 1 from rfl, show b2n false = 0 from rfl]; omega) (by omega) (by rw [← hZ, eiL_eo hc h9 h13])
              · -- not (nxt tx fd ((sngR tx fd 4 ag).1) = 124)
                refine v_I (I2 := (rI I (nI (sngR tx fd 4 ag).1) (nI (sz + (((out ++ co) ++ anL false) ++ eoL true).length)) ng4 fa (putL st sz ((((out ++ co) ++ anL false) ++ eoL true).map ccd)))) (by rw [ifc_f h13]) ?_
                refine v_iconst (v := 1) dX4_parseEither_69 (by decide) ?_
                exact v_zret hr dX4_parseEither_70 (by first | rfl | exact nbq) (by (rw [← hZ, eiL_end hc h9 h13]; exact pps_some))
          · -- (nxt tx fd ((sngR tx fd 4 ag).1) = 38)
            have hlq := nxt_eq h9 (by decide)
            refine v_I (I2 := (rI I (nI ((sngR tx fd 4 ag).1 + 1)) (nI (sz + ((out ++ co) ++ anL false).length)) ng4 fa (putL st sz (((out ++ co) ++ anL false).map ccd)))) (by rw [ifc_t h9]) ?_
            refine v_goto (tgt := 71) dX4_parseEither_45 (by decide) ?_
            refine v_inc (v := nI (iz + 1)) (lv2 := [(4, .int (nI (iz + 1))), (3, .int (bq (nxt tx fd ((sngR tx fd 4 ag).1) = 38))), (2, .int (bb ei)), (0, .ref (g.1 + 15)), (1, .int 0)]) dX4_parseEither_71 1 rfl (nx_inc rfl) (by decide) rfl ?_
            refine v_goto (tgt := 7) dX4_parseEither_74 (by decide) ?_
            refine v_lv (lv2 := [(4, .int (nI (iz + 1))), (3, .int (bb true)), (2, .int (bb ei)), (0, .ref (g.1 + 15)), (1, .int 0)]) (by rw [bq_t h9]; rfl) ?_
            exact ih (iz + 1) ei true _ _ _ (by omega) (by rw [show b2n true = 1 from rfl]; omega) (by omega) (by rw [← hZ, eiL_an hc h9])
        | true =>
          show V g F cX4_parseEither RX4 5 15 24 [(4, .int (nI iz)), (3, .int 1), (2, .int (bb ei)), (0, .ref (g.1 + 15)), (1, .int 0)] [] (rI I (nI (sngR tx fd 4 ag).1) (nI (sz + (out ++ co).length)) ng4 fa (putL st sz ((out ++ co).map ccd))) L (RT na nt ni) (NT nl) (NB + m) 0 0
          refine v_iload_n dX4_parseEither_24 rfl 1 rfl ?_
          refine v_if_eq (tgt := 34) dX4_parseEither_25 (by decide) (fun h14 => by first | exact absurd h14 (by decide) | exact absurd (by decide) h14) (fun _ => ?_)
          refine v_aload_n dX4_parseEither_28 rfl 3 rfl ?_
          refine v_iconst (v := 1) dX4_parseEither_29 (by decide) ?_
          refine v_iconst (v := 0) dX4_parseEither_30 (by decide) ?_
          refine v_callVv (As := [.int 1, .int 0]) (rest := []) lk_X4_72 (c_X4_addStep 1 0 ((sngR tx fd 4 ag).1) (sz + (out ++ co).length) ng4 fa (putL st sz ((out ++ co).map ccd)) fd hf hfd tx htx (by omega)) dX4_parseEither_31 rfl (ltn rfl) rfl rfl (Nat.le_of_ble_eq_true rfl) (by decide) ?_
          refine v_I (I2 := (rI I (nI (sngR tx fd 4 ag).1) (nI (sz + ((out ++ co) ++ anL true).length)) ng4 fa (putL st sz (((out ++ co) ++ anL true).map ccd)))) (by rw [ptc_one _ Tk_an ccd_an, sz_one _ Tk_an]; rfl) ?_
          have hl3 : ((out ++ co) ++ anL true).length = out.length + co.length + b2n true := by rw [List.length_append, List.length_append, anL_len]
          refine v_aload_n dX4_parseEither_34 rfl 3 rfl ?_
          refine v_bipush (v := 38) dX4_parseEither_35 (by decide) ?_
          refine v_callVi (As := [.int 38]) (rest := []) lk_X4_33 (c_X4_takeSign 38 ((sngR tx fd 4 ag).1) (sz + ((out ++ co) ++ anL true).length) ng4 fa (putL st sz (((out ++ co) ++ anL true).map ccd)) fd hf hfd tx htx (by omega)) dX4_parseEither_37 rfl (ltn rfl) rfl rfl (Nat.le_of_ble_eq_true rfl) (by decide) ?_
          refine v_istore_n (lv2 := [(3, .int (bq (nxt tx fd ((sngR tx fd 4 ag).1) = 38))), (4, .int (nI iz)), (2, .int (bb ei)), (0, .ref (g.1 + 15)), (1, .int 0)]) dX4_parseEither_40 rfl (by decide) rfl ?_
          refine v_iload_n dX4_parseEither_41 rfl 0 rfl ?_
          refine v_ifb_eq (tgt := 48) dX4_parseEither_42 (by decide) (fun h15 => ?_) (fun h15 => ?_)
          · -- not (nxt tx fd ((sngR tx fd 4 ag).1) = 38)
            refine v_I (I2 := (rI I (nI (sngR tx fd 4 ag).1) (nI (sz + ((out ++ co) ++ anL true).length)) ng4 fa (putL st sz (((out ++ co) ++ anL true).map ccd)))) (by rw [ifc_f h15]) ?_
            cases ei with
            | false =>
              show V g F cX4_parseEither RX4 5 15 48 [(3, .int (bq (nxt tx fd ((sngR tx fd 4 ag).1) = 38))), (4, .int (nI iz)), (2, .int 0), (0, .ref (g.1 + 15)), (1, .int 0)] [] (rI I (nI (sngR tx fd 4 ag).1) (nI (sz + ((out ++ co) ++ anL true).length)) ng4 fa (putL st sz (((out ++ co) ++ anL true).map ccd))) L (RT na nt ni) (NT nl) (NB + m) 0 0
              refine v_iload_n dX4_parseEither_48 rfl 2 rfl ?_
              refine v_if_eq (tgt := 58) dX4_parseEither_49 (by decide) (fun _ => ?_) (fun h16 => by first | exact absurd h16 (by decide) | exact absurd (by decide) h16)
              refine v_I (I2 := (rI I (nI (sngR tx fd 4 ag).1) (nI (sz + (((out ++ co) ++ anL true) ++ eoL false).length)) ng4 fa (putL st sz ((((out ++ co) ++ anL true) ++ eoL false).map ccd)))) (by rw [show eoL false = [] from rfl, List.append_nil]) ?_
              have hl4 : (((out ++ co) ++ anL true) ++ eoL false).length = out.length + co.length + b2n true + b2n false := by rw [List.length_append, hl3, eoL_len]
              refine v_aload_n dX4_parseEither_58 rfl 3 rfl ?_
              refine v_bipush (v := 124) dX4_parseEither_59 (by decide) ?_
              refine v_callVi (As := [.int 124]) (rest := []) lk_X4_33 (c_X4_takeSign 124 ((sngR tx fd 4 ag).1) (sz + (((out ++ co) ++ anL true) ++ eoL false).length) ng4 fa (putL st sz ((((out ++ co) ++ anL true) ++ eoL false).map ccd)) fd hf hfd tx htx (by omega)) dX4_parseEither_61 rfl (ltn rfl) rfl rfl (Nat.le_of_ble_eq_true rfl) (by decide) ?_
              refine v_istore_n (lv2 := [(2, .int (bq (nxt tx fd ((sngR tx fd 4 ag).1) = 124))), (3, .int (bq (nxt tx fd ((sngR tx fd 4 ag).1) = 38))), (4, .int (nI iz)), (0, .ref (g.1 + 15)), (1, .int 0)]) dX4_parseEither_64 rfl (by decide) rfl ?_
              refine v_iload_n dX4_parseEither_65 rfl 0 rfl ?_
              refine v_ifb_ne (tgt := 71) dX4_parseEither_66 (by decide) (fun h17 => ?_) (fun h17 => ?_)
              · -- (nxt tx fd ((sngR tx fd 4 ag).1) = 124)
                have hlq := nxt_eq h17 (by decide)
                refine v_I (I2 := (rI I (nI ((sngR tx fd 4 ag).1 + 1)) (nI (sz + (((out ++ co) ++ anL true) ++ eoL false).length)) ng4 fa (putL st sz ((((out ++ co) ++ anL true) ++ eoL false).map ccd)))) (by rw [ifc_t h17]) ?_
                refine v_inc (v := nI (iz + 1)) (lv2 := [(4, .int (nI (iz + 1))), (2, .int (bq (nxt tx fd ((sngR tx fd 4 ag).1) = 124))), (3, .int (bq (nxt tx fd ((sngR tx fd 4 ag).1) = 38))), (0, .ref (g.1 + 15)), (1, .int 0)]) dX4_parseEither_71 2 rfl (nx_inc rfl) (by decide) rfl ?_
                refine v_goto (tgt := 7) dX4_parseEither_74 (by decide) ?_
                refine v_sub (lv2 := [(4, .int (nI (iz + 1))), (3, .int (bq (nxt tx fd ((sngR tx fd 4 ag).1) = 38))), (2, .int (bq (nxt tx fd ((sngR tx fd 4 ag).1) = 124))), (0, .ref (g.1 + 15)), (1, .int 0)]) [0, 2, 1, 3, 4] rfl ?_
                refine v_lv (lv2 := [(4, .int (nI (iz + 1))), (3, .int (bb false)), (2, .int (bb true)), (0, .ref (g.1 + 15)), (1, .int 0)]) (by rw [bq_t h17, bq_f h15]; rfl) ?_
                exact ih (iz + 1) true false _ _ _ (by omega) (by rw [show b2n true = 1 from rfl, show b2n false = 0 from rfl]; omega) (by omega) (by rw [← hZ, eiL_eo hc h15 h17])
              · -- not (nxt tx fd ((sngR tx fd 4 ag).1) = 124)
                refine v_I (I2 := (rI I (nI (sngR tx fd 4 ag).1) (nI (sz + (((out ++ co) ++ anL true) ++ eoL false).length)) ng4 fa (putL st sz ((((out ++ co) ++ anL true) ++ eoL false).map ccd)))) (by rw [ifc_f h17]) ?_
                refine v_iconst (v := 1) dX4_parseEither_69 (by decide) ?_
                exact v_zret hr dX4_parseEither_70 (by first | rfl | exact nbq) (by (rw [← hZ, eiL_end hc h15 h17]; exact pps_some))
            | true =>
              show V g F cX4_parseEither RX4 5 15 48 [(3, .int (bq (nxt tx fd ((sngR tx fd 4 ag).1) = 38))), (4, .int (nI iz)), (2, .int 1), (0, .ref (g.1 + 15)), (1, .int 0)] [] (rI I (nI (sngR tx fd 4 ag).1) (nI (sz + ((out ++ co) ++ anL true).length)) ng4 fa (putL st sz (((out ++ co) ++ anL true).map ccd))) L (RT na nt ni) (NT nl) (NB + m) 0 0
              refine v_iload_n dX4_parseEither_48 rfl 2 rfl ?_
              refine v_if_eq (tgt := 58) dX4_parseEither_49 (by decide) (fun h18 => by first | exact absurd h18 (by decide) | exact absurd (by decide) h18) (fun _ => ?_)
              refine v_aload_n dX4_parseEither_52 rfl 3 rfl ?_
              refine v_iconst (v := 2) dX4_parseEither_53 (by decide) ?_
              refine v_iconst (v := 0) dX4_parseEither_54 (by decide) ?_
              refine v_callVv (As := [.int 2, .int 0]) (rest := []) lk_X4_72 (c_X4_addStep 2 0 ((sngR tx fd 4 ag).1) (sz + ((out ++ co) ++ anL true).length) ng4 fa (putL st sz (((out ++ co) ++ anL true).map ccd)) fd hf hfd tx htx (by omega)) dX4_parseEither_55 rfl (ltn rfl) rfl rfl (Nat.le_of_ble_eq_true rfl) (by decide) ?_
              refine v_I (I2 := (rI I (nI (sngR tx fd 4 ag).1) (nI (sz + (((out ++ co) ++ anL true) ++ eoL true).length)) ng4 fa (putL st sz ((((out ++ co) ++ anL true) ++ eoL true).map ccd)))) (by rw [ptc_one _ Tk_eo ccd_eo, sz_one _ Tk_eo]; rfl) ?_
              have hl4 : (((out ++ co) ++ anL true) ++ eoL true).length = out.length + co.length + b2n true + b2n true := by rw [List.length_append, hl3, eoL_len]
              refine v_aload_n dX4_parseEither_58 rfl 3 rfl ?_
              refine v_bipush (v := 124) dX4_parseEither_59 (by decide) ?_
              refine v_callVi (As := [.int 124]) (rest := []) lk_X4_33 (c_X4_takeSign 124 ((sngR tx fd 4 ag).1) (sz + (((out ++ co) ++ anL true) ++ eoL true).length) ng4 fa (putL st sz ((((out ++ co) ++ anL true) ++ eoL true).map ccd)) fd hf hfd tx htx (by omega)) dX4_parseEither_61 rfl (ltn rfl) rfl rfl (Nat.le_of_ble_eq_true rfl) (by decide) ?_
              refine v_istore_n (lv2 := [(2, .int (bq (nxt tx fd ((sngR tx fd 4 ag).1) = 124))), (3, .int (bq (nxt tx fd ((sngR tx fd 4 ag).1) = 38))), (4, .int (nI iz)), (0, .ref (g.1 + 15)), (1, .int 0)]) dX4_parseEither_64 rfl (by decide) rfl ?_
              refine v_iload_n dX4_parseEither_65 rfl 0 rfl ?_
              refine v_ifb_ne (tgt := 71) dX4_parseEither_66 (by decide) (fun h19 => ?_) (fun h19 => ?_)
              · -- (nxt tx fd ((sngR tx fd 4 ag).1) = 124)
                have hlq := nxt_eq h19 (by decide)
                refine v_I (I2 := (rI I (nI ((sngR tx fd 4 ag).1 + 1)) (nI (sz + (((out ++ co) ++ anL true) ++ eoL true).length)) ng4 fa (putL st sz ((((out ++ co) ++ anL true) ++ eoL true).map ccd)))) (by rw [ifc_t h19]) ?_
                refine v_inc (v := nI (iz + 1)) (lv2 := [(4, .int (nI (iz + 1))), (2, .int (bq (nxt tx fd ((sngR tx fd 4 ag).1) = 124))), (3, .int (bq (nxt tx fd ((sngR tx fd 4 ag).1) = 38))), (0, .ref (g.1 + 15)), (1, .int 0)]) dX4_parseEither_71 2 rfl (nx_inc rfl) (by decide) rfl ?_
                refine v_goto (tgt := 7) dX4_parseEither_74 (by decide) ?_
                refine v_sub (lv2 := [(4, .int (nI (iz + 1))), (3, .int (bq (nxt tx fd ((sngR tx fd 4 ag).1) = 38))), (2, .int (bq (nxt tx fd ((sngR tx fd 4 ag).1) = 124))), (0, .ref (g.1 + 15)), (1, .int 0)]) [0, 2, 1, 3, 4] rfl ?_
                refine v_lv (lv2 := [(4, .int (nI (iz + 1))), (3, .int (bb false)), (2, .int (bb true)), (0, .ref (g.1 + 15)), (1, .int 0)]) (by rw [bq_t h19, bq_f h15]; rfl) ?_
                exact ih (iz + 1) true false _ _ _ (by omega) (by rw [show b2n true = 1 from rfl, show b2n false = 0 from rfl]; omega) (by omega) (by rw [← hZ, eiL_eo hc h15 h19])
              · -- not (nxt tx fd ((sngR tx fd 4 ag).1) = 124)
                refine v_I (I2 := (rI I (nI (sngR tx fd 4 ag).1) (nI (sz + (((out ++ co) ++ anL true) ++ eoL true).length)) ng4 fa (putL st sz ((((out ++ co) ++ anL true) ++ eoL true).map ccd)))) (by rw [ifc_f h19]) ?_
                refine v_iconst (v := 1) dX4_parseEither_69 (by decide) ?_
                exact v_zret hr dX4_parseEither_70 (by first | rfl | exact nbq) (by (rw [← hZ, eiL_end hc h15 h19]; exact pps_some))
          · -- (nxt tx fd ((sngR tx fd 4 ag).1) = 38)
            have hlq := nxt_eq h15 (by decide)
            refine v_I (I2 := (rI I (nI ((sngR tx fd 4 ag).1 + 1)) (nI (sz + ((out ++ co) ++ anL true).length)) ng4 fa (putL st sz (((out ++ co) ++ anL true).map ccd)))) (by rw [ifc_t h15]) ?_
            refine v_goto (tgt := 71) dX4_parseEither_45 (by decide) ?_
            refine v_inc (v := nI (iz + 1)) (lv2 := [(4, .int (nI (iz + 1))), (3, .int (bq (nxt tx fd ((sngR tx fd 4 ag).1) = 38))), (2, .int (bb ei)), (0, .ref (g.1 + 15)), (1, .int 0)]) dX4_parseEither_71 1 rfl (nx_inc rfl) (by decide) rfl ?_
            refine v_goto (tgt := 7) dX4_parseEither_74 (by decide) ?_
            refine v_lv (lv2 := [(4, .int (nI (iz + 1))), (3, .int (bb true)), (2, .int (bb ei)), (0, .ref (g.1 + 15)), (1, .int 0)]) (by rw [bq_t h15]; rfl) ?_
            exact ih (iz + 1) ei true _ _ _ (by omega) (by rw [show b2n true = 1 from rfl]; omega) (by omega) (by rw [← hZ, eiL_an hc h15])
      · -- not ((sngR tx fd 4 ag).2.isSome = true)
        refine v_iconst (v := 0) dX4_parseEither_22 (by decide) ?_
        exact v_zret hr dX4_parseEither_23 (by first | rfl | exact nbq) (by (rw [← hZ, eiL_no h7]; exact pps_none))
  refine v_iconst (v := 0) dX4_parseEither_0 (by decide) ?_
  refine v_istore_n (lv2 := [(2, .int 0), (0, .ref (g.1 + 15)), (1, .int 0)]) dX4_parseEither_1 rfl (by decide) rfl ?_
  refine v_iconst (v := 0) dX4_parseEither_2 (by decide) ?_
  refine v_istore_n (lv2 := [(3, .int 0), (2, .int 0), (0, .ref (g.1 + 15)), (1, .int 0)]) dX4_parseEither_3 rfl (by decide) rfl ?_
  refine v_iconst (v := 0) dX4_parseEither_4 (by decide) ?_
  refine v_istore (lv2 := [(4, .int 0), (3, .int 0), (2, .int 0), (0, .ref (g.1 + 15)), (1, .int 0)]) dX4_parseEither_5 (by decide) rfl ?_
  refine v_lv (lv2 := [(4, .int (nI 0)), (3, .int (bb false)), (2, .int (bb false)), (0, .ref (g.1 + 15)), (1, .int 0)]) (by rfl) ?_
  refine v_I (I2 := (rI I (nI az) (nI (sz + ([] : List Tk).length)) nu fa (putL st sz (([] : List Tk).map ccd)))) (by rfl) ?_
  exact key 100 0 false false az [] nu rfl (by show sz + 0 + 0 + 0 ≤ az; omega) ha rfl
