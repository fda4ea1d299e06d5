theorem nI_sur (x : Int32) : ∃ k, x = nI k := ⟨x.toBitVec.toNat, by
  apply Int32.toBitVec_inj.1
  show x.toBitVec = BitVec.ofNat 32 x.toBitVec.toNat
  simp⟩
section
variable {tx lt : Nat → Int32} {fd k a : Nat} {acc : ClL}
theorem txR_no (h : ¬ (clR tx lt fd a).2.isSome = true) : txR tx lt fd (k + 1) a acc = ((clR tx lt fd a).1, none) := by
  rw [txR]
  cases e : (clR tx lt fd a).2 with
  | none => rfl
  | some c => rw [e] at h; exact absurd rfl h
theorem txR_end {c : Int32 × Int32 × List Tk} (h : (clR tx lt fd a).2 = some c) (he : (clR tx lt fd a).1 = fd) : txR tx lt fd (k + 1) a acc = ((clR tx lt fd a).1, some (acc ++ [c])) := by
  rw [txR, h]; exact ifc_t he
theorem txR_bad {c : Int32 × Int32 × List Tk} (h : (clR tx lt fd a).2 = some c) (he : ¬ (clR tx lt fd a).1 = fd) (hb : k = 0 ∨ ¬ nxt tx fd (clR tx lt fd a).1 = 59) : txR tx lt fd (k + 1) a acc = ((clR tx lt fd a).1, none) := by
  rw [txR, h]; exact (ifc_f he).trans (ifc_t hb)
theorem txR_go {c : Int32 × Int32 × List Tk} (h : (clR tx lt fd a).2 = some c) (he : ¬ (clR tx lt fd a).1 = fd) (hb : ¬ (k = 0 ∨ ¬ nxt tx fd (clR tx lt fd a).1 = 59)) : txR tx lt fd (k + 1) a acc = txR tx lt fd k ((clR tx lt fd a).1 + 1) (acc ++ [c]) := by
  rw [txR, h]; exact (ifc_f he).trans (ifc_f hb)
end
theorem tjn_0 (f : Nat) (I : Ty) : tjn f I I := ⟨fun _ _ _ _ _ _ => rfl, fun _ _ => ⟨rfl, rfl, rfl, rfl⟩, fun _ _ => rfl⟩
theorem ptx_no {I B : Ty} {L : TL} {R : TR} {N : TN} {n f z1 sg wt : Nat} {dg op : Int32} {sn ws : Nat → Int32} (hT : tjn f I B) (hs : ∀ j, j < 100 * f → sn j = I 80 j) : Ptx I L R N n f (z1, none) (some (.int 0)) (pI B (nI z1) dg (nI sg) (nI wt) op sn ws) L R N n :=
  ⟨congrArg (fun z => some (Value.int z)) (bq_f (by intro q; cases q)).symm, ⟨dg, sg, wt, op, sn, ws, B, rfl, hT, hs, fun l q => by cases q⟩, rfl, rfl, rfl, rfl⟩
theorem ptx_yes {I B : Ty} {L : TL} {R : TR} {N : TN} {n f z1 wt : Nat} {dg op : Int32} {ws : Nat → Int32} {acc : ClL} {c : Int32 × Int32 × List Tk} (hT : tjn f I B) (hl : acc.length + 1 ≤ 10) (h75 : B 75 f = nI (acc.length + 1)) (he : enc B (10 * f) (100 * f) (acc ++ [c])) (h100 : (toks acc).length + c.2.2.length ≤ 100) :
    Ptx I L R N n f (z1, some (acc ++ [c])) (some (.int 1)) (pI B (nI z1) dg (nI (100 * f + (toks acc).length + c.2.2.length)) (nI wt) op (putL (putL (I 80) (100 * f) ((toks acc).map mcd)) (100 * f + (toks acc).length) (c.2.2.map mcd)) ws) L R N n := by
  have e1 : (acc ++ [c]).length = acc.length + 1 := by rw [List.length_append]; rfl
  have e2 : putL (putL (I 80) (100 * f) ((toks acc).map mcd)) (100 * f + (toks acc).length) (c.2.2.map mcd) = putL (I 80) (100 * f) ((toks (acc ++ [c])).map mcd) := by
    have h := putL_app ((toks acc).map mcd) (c.2.2.map mcd) (I 80) (100 * f)
    rw [List.length_map] at h
    rw [h, toks_app, toks_one, List.map_append]
  refine ⟨congrArg (fun z => some (Value.int z)) (bq_t rfl).symm, ⟨dg, _, wt, op, _, ws, B, rfl, hT, fun j hj => ?_, fun l q => ?_⟩, rfl, rfl, rfl, rfl⟩
  · rw [e2]; exact putL_lt _ _ _ _ hj
  · cases q
    rw [e1]
    refine ⟨hl, by omega, h75, he, e2, ?_⟩
    rw [toks_app, toks_one, List.length_append]; exact h100
set_option maxRecDepth 100000 in
set_option maxHeartbeats 2000000 in
theorem c_X9_goesText {g : Gl} {I : Ty} {L : TL} {na nt ni m : Nat} {nl : Nat → Nat} (fz : Nat) (hfz : fz < 6) (fd : Nat) (hf : fd ≤ 100) (hfd : I 65 12 = nI fd) (tx : Nat → Int32) (htx : I 74 = tx) (lt : Nat → Int32) (hlt : I 82 = lt) : Ct g yX9_goesText cX9_goesText 3 (some .boolean) 7 0 0 [.ref (g.1 + 65), .int (nI fz)] I L (RT na nt ni) (NT nl) (NB + m) (Ptx I L (RT na nt ni) (NT nl) (NB + m) fz (txR tx lt fd 10 0 [])) := by
  refine ct_of (by decide +kernel) (Nat.le_of_ble_eq_true rfl) (fun F hnm hr => ?_)
  clear hnm
  show V g F cX9_goesText RX9 3 7 0 [(0, .ref (g.1 + 65)), (1, .int (nI fz))] [] I L (RT na nt ni) (NT nl) (NB + m) 0 0
  obtain ⟨az, haz⟩ := nI_sur (I 65 13)
  obtain ⟨sz, hsz⟩ := nI_sur (I 65 23)
  obtain ⟨wz, hwz⟩ := nI_sur (I 65 24)
  have key : ∀ kz, ∀ (nz ag wg : Nat) (dg og : Int32) (wsg : Nat → Int32) (B : Ty) (acc : ClL), nz + (kz + 1) = 10 → acc.length = nz → (toks acc).length ≤ ag → ag ≤ fd → tjn fz I B → enc B (10 * fz) (100 * fz) acc → txR tx lt fd (kz + 1) ag acc = (txR tx lt fd 10 0 []) → V g F cX9_goesText RX9 3 7 15 [(2, .int (nI nz)), (0, .ref (g.1 + 65)), (1, .int (nI fz))] [] (pI B (nI ag) dg (nI (100 * fz + (toks acc).length)) (nI wg) og (putL (I 80) (100 * fz) ((toks acc).map mcd)) wsg) L (RT na nt ni) (NT nl) (NB + m) 0 0 := by
    intro kz
    induction kz with
    | zero =>
      intro nz ag wg dg og wsg B acc hnk hnl htl hag hT henc hZ
      have hfd : B 65 12 = nI fd := (congrFun (hT.1 65 (by decide) (by decide) (by decide) (by decide) (by decide)) 12).trans hfd
      have htx : B 74 = tx := (hT.1 74 (by decide) (by decide) (by decide) (by decide) (by decide)).trans htx
      have hlt : B 82 = lt := (hT.1 82 (by decide) (by decide) (by decide) (by decide) (by decide)).trans hlt
      refine v_aload_n dX9_goesText_15 rfl 1 rfl ?_
      refine v_bipush (v := 10) dX9_goesText_16 (by decide) ?_
      refine v_iload_n dX9_goesText_18 rfl 2 rfl ?_
      refine v_imul dX9_goesText_19 ?_
      refine v_is (nx_mul rfl rfl) ?_
      refine v_iload_n dX9_goesText_20 rfl 0 rfl ?_
      refine v_iadd dX9_goesText_21 ?_
      refine v_is (nx_add rfl rfl) ?_
      refine v_callV (As := [.int (nI ((10 * fz) + nz))]) (rest := []) lk_X9_289 (c_X9_takesClause (I := B) ((10 * fz) + nz) ag dg (100 * fz + (toks acc).length) wg og (putL (I 80) (100 * fz) ((toks acc).map mcd)) wsg fd hf hfd tx htx (by omega) (100 * fz) (by omega) (by omega) hag lt hlt) dX9_goesText_22 rfl (ltn rfl) rfl rfl (Nat.le_of_ble_eq_true rfl) (by decide) (Nat.zero_le _) (Nat.zero_le _) (fun v I1 L_ R_ N_ n_ q2 => ?_)
      obtain ⟨rfl, ⟨dg2, out, wt2, op2, ws2, B2, rfl, hcj, hout⟩, rfl, rfl, rfl, rfl⟩ := q2
      have hcl : 10 * fz ≤ ((10 * fz) + nz) := by omega
      have hT2 := tjn_c hT hcj hcl
      have hfd : B2 65 12 = nI fd := by rw [congrFun (hcj.1 65 (by decide) (by decide) (by decide) (by decide)) 12]; exact hfd
      have htx : B2 74 = tx := (hcj.1 74 (by decide) (by decide) (by decide) (by decide)).trans htx
      have hlt : B2 82 = lt := (hcj.1 82 (by decide) (by decide) (by decide) (by decide)).trans hlt
      have hpl : ∀ (l2 : List Int32) (j : Nat), j < 100 * fz → putL (putL (I 80) (100 * fz) ((toks acc).map mcd)) (100 * fz + (toks acc).length) l2 j = I 80 j := fun l2 j hj => (putL_lt _ _ _ _ (by omega)).trans (putL_lt _ _ _ _ hj)
      refine v_st (st2 := [.int (bq ((clR tx lt fd ag).2.isSome = true))]) rfl ?_
      refine v_ifb_ne (tgt := 30) dX9_goesText_25 (by decide) (fun h3 => ?_) (fun h3 => ?_)
      · -- ((clR tx lt fd ag).2.isSome = true)
        obtain ⟨cx, hc⟩ := Option.isSome_iff_exists.mp h3
        obtain ⟨cw, ck, co⟩ := cx
        have hok := clR_ok (a := ag) (a' := (clR tx lt fd ag).1) (Prod.ext rfl hc)
        obtain ⟨rfl, h76, h77, h78⟩ := hout cw ck co hc
        have henc2 := enc_keep acc (10 * fz) (100 * fz) (fun j h1 h2 => hcj.2 j (by omega)) henc
        refine v_inc (v := nI (nz + 1)) (lv2 := [(2, .int (nI (nz + 1))), (0, .ref (g.1 + 65)), (1, .int (nI fz))]) dX9_goesText_30 0 rfl (nx_inc rfl) (by decide) rfl ?_
        refine v_aload_n dX9_goesText_33 rfl 1 rfl ?_
        refine v_get (v := .ref (g.1 + 75)) fa_X9_59 dX9_goesText_34 rfl (by decide) (ltn rfl) rfl ?_
        refine v_iload_n dX9_goesText_37 rfl 2 rfl ?_
        refine v_iload_n dX9_goesText_38 rfl 0 rfl ?_
        refine v_iastore (len := 6) (j := fz) dX9_goesText_39 rfl (ltn rfl) rfl (by decide) rfl (by omega) ?_
        refine v_I (I2 := (pI (wr B2 75 fz (nI (nz + 1))) (nI (clR tx lt fd ag).1) dg2 (nI (100 * fz + (toks acc).length + out.length)) (nI wt2) op2 (putL (putL (I 80) (100 * fz) ((toks acc).map mcd)) (100 * fz + (toks acc).length) (out.map mcd)) ws2)) (by show (wr (pI B2 (nI (clR tx lt fd ag).1) dg2 (nI (100 * fz + (toks acc).length + out.length)) (nI wt2) op2 (putL (putL (I 80) (100 * fz) ((toks acc).map mcd)) (100 * fz + (toks acc).length) (out.map mcd)) ws2) 75 fz (nI (nz + 1))) = _; exact pI_out _ _ _ _ _ _ _ _ _ _ (by decide) (by decide) (by decide)) ?_
        refine v_aload_n dX9_goesText_40 rfl 1 rfl ?_
        refine v_get (v := .int ((pI (wr B2 75 fz (nI (nz + 1))) (nI (clR tx lt fd ag).1) dg2 (nI (100 * fz + (toks acc).length + out.length)) (nI wt2) op2 (putL (putL (I 80) (100 * fz) ((toks acc).map mcd)) (100 * fz + (toks acc).length) (out.map mcd)) ws2) 65 13)) fa_X9_50 dX9_goesText_41 rfl (by decide) (ltn rfl) rfl ?_
        refine v_is (y := nI (clR tx lt fd ag).1) (by rfl) ?_
        refine v_aload_n dX9_goesText_44 rfl 1 rfl ?_
        refine v_get (v := .int ((pI (wr B2 75 fz (nI (nz + 1))) (nI (clR tx lt fd ag).1) dg2 (nI (100 * fz + (toks acc).length + out.length)) (nI wt2) op2 (putL (putL (I 80) (100 * fz) ((toks acc).map mcd)) (100 * fz + (toks acc).length) (out.map mcd)) ws2) 65 12)) fa_X9_47 dX9_goesText_45 rfl (by decide) (ltn rfl) rfl ?_
        refine v_is (y := nI fd) (by exact hfd) ?_
        refine v_icmp_neN (a := (clR tx lt fd ag).1) (b := fd) (tgt := 53) dX9_goesText_48 (by decide) rfl rfl (by omega) (by omega) (fun h5 => ?_) (fun h5 => ?_)
        · refine v_iload_n dX9_goesText_53 rfl 0 rfl ?_
          refine v_bipush (v := 10) dX9_goesText_54 (by decide) ?_
          refine v_icmp_eqN (a := nz + 1) (b := 10) (tgt := 68) dX9_goesText_56 (by decide) rfl rfl (by omega) (by omega) (fun _ => ?_) (fun hq => by exfalso; omega)
          refine v_iconst (v := 0) dX9_goesText_68 (by decide) ?_
          exact v_zret hr dX9_goesText_69 (by first | rfl | exact nbq) (by (rw [← hZ, txR_bad hc h5 (Or.inl rfl)]; exact ptx_no (tjn_75 hT2 _) (fun j hj => hpl _ j hj)))
        · refine v_iconst (v := 1) dX9_goesText_51 (by decide) ?_
          exact v_zret hr dX9_goesText_52 (by first | rfl | exact nbq) (by (rw [← hZ, txR_end hc h5]; exact ptx_yes (tjn_75 hT2 _) (by omega) (by rw [← hnl]; exact up_at _ _ _) (enc_keep (B := B2) _ _ _ (fun j h1 h2 => ⟨rfl, rfl, rfl, rfl⟩) (enc_snoc _ _ _ henc2 (by rw [hnl]; exact h76) (by rw [hnl]; exact h77) (by rw [hnl]; exact h78))) (by show (toks acc).length + out.length ≤ 100; have hok3 : out.length + ag ≤ _ := hok.2.2; omega)))
      · -- not ((clR tx lt fd ag).2.isSome = true)
        refine v_iconst (v := 0) dX9_goesText_28 (by decide) ?_
        exact v_zret hr dX9_goesText_29 (by first | rfl | exact nbq) (by (rw [← hZ, txR_no h3]; exact ptx_no hT2 (fun j hj => hpl _ j hj)))
    | succ kz ih =>
      intro nz ag wg dg og wsg B acc hnk hnl htl hag hT henc hZ
      have hfd : B 65 12 = nI fd := (congrFun (hT.1 65 (by decide) (by decide) (by decide) (by decide) (by decide)) 12).trans hfd
      have htx : B 74 = tx := (hT.1 74 (by decide) (by decide) (by decide) (by decide) (by decide)).trans htx
      have hlt : B 82 = lt := (hT.1 82 (by decide) (by decide) (by decide) (by decide) (by decide)).trans hlt
      refine v_aload_n dX9_goesText_15 rfl 1 rfl ?_
      refine v_bipush (v := 10) dX9_goesText_16 (by decide) ?_
      refine v_iload_n dX9_goesText_18 rfl 2 rfl ?_
      refine v_imul dX9_goesText_19 ?_
      refine v_is (nx_mul rfl rfl) ?_
      refine v_iload_n dX9_goesText_20 rfl 0 rfl ?_
      refine v_iadd dX9_goesText_21 ?_
      refine v_is (nx_add rfl rfl) ?_
      refine v_callV (As := [.int (nI ((10 * fz) + nz))]) (rest := []) lk_X9_289 (c_X9_takesClause (I := B) ((10 * fz) + nz) ag dg (100 * fz + (toks acc).length) wg og (putL (I 80) (100 * fz) ((toks acc).map mcd)) wsg fd hf hfd tx htx (by omega) (100 * fz) (by omega) (by omega) hag lt hlt) dX9_goesText_22 rfl (ltn rfl) rfl rfl (Nat.le_of_ble_eq_true rfl) (by decide) (Nat.zero_le _) (Nat.zero_le _) (fun v I7 L_ R_ N_ n_ q8 => ?_)
      obtain ⟨rfl, ⟨dg2, out, wt2, op2, ws2, B2, rfl, hcj, hout⟩, rfl, rfl, rfl, rfl⟩ := q8
      have hcl : 10 * fz ≤ ((10 * fz) + nz) := by omega
      have hT2 := tjn_c hT hcj hcl
      have hfd : B2 65 12 = nI fd := by rw [congrFun (hcj.1 65 (by decide) (by decide) (by decide) (by decide)) 12]; exact hfd
      have htx : B2 74 = tx := (hcj.1 74 (by decide) (by decide) (by decide) (by decide)).trans htx
      have hlt : B2 82 = lt := (hcj.1 82 (by decide) (by decide) (by decide) (by decide)).trans hlt
      have hpl : ∀ (l2 : List Int32) (j : Nat), j < 100 * fz → putL (putL (I 80) (100 * fz) ((toks acc).map mcd)) (100 * fz + (toks acc).length) l2 j = I 80 j := fun l2 j hj => (putL_lt _ _ _ _ (by omega)).trans (putL_lt _ _ _ _ hj)
      refine v_st (st2 := [.int (bq ((clR tx lt fd ag).2.isSome = true))]) rfl ?_
      refine v_ifb_ne (tgt := 30) dX9_goesText_25 (by decide) (fun h9 => ?_) (fun h9 => ?_)
      · -- ((clR tx lt fd ag).2.isSome = true)
        obtain ⟨cx, hc⟩ := Option.isSome_iff_exists.mp h9
        obtain ⟨cw, ck, co⟩ := cx
        have hok := clR_ok (a := ag) (a' := (clR tx lt fd ag).1) (Prod.ext rfl hc)
        obtain ⟨rfl, h76, h77, h78⟩ := hout cw ck co hc
        have henc2 := enc_keep acc (10 * fz) (100 * fz) (fun j h1 h2 => hcj.2 j (by omega)) henc
        refine v_inc (v := nI (nz + 1)) (lv2 := [(2, .int (nI (nz + 1))), (0, .ref (g.1 + 65)), (1, .int (nI fz))]) dX9_goesText_30 0 rfl (nx_inc rfl) (by decide) rfl ?_
        refine v_aload_n dX9_goesText_33 rfl 1 rfl ?_
        refine v_get (v := .ref (g.1 + 75)) fa_X9_59 dX9_goesText_34 rfl (by decide) (ltn rfl) rfl ?_
        refine v_iload_n dX9_goesText_37 rfl 2 rfl ?_
        refine v_iload_n dX9_goesText_38 rfl 0 rfl ?_
        refine v_iastore (len := 6) (j := fz) dX9_goesText_39 rfl (ltn rfl) rfl (by decide) rfl (by omega) ?_
        refine v_I (I2 := (pI (wr B2 75 fz (nI (nz + 1))) (nI (clR tx lt fd ag).1) dg2 (nI (100 * fz + (toks acc).length + out.length)) (nI wt2) op2 (putL (putL (I 80) (100 * fz) ((toks acc).map mcd)) (100 * fz + (toks acc).length) (out.map mcd)) ws2)) (by show (wr (pI B2 (nI (clR tx lt fd ag).1) dg2 (nI (100 * fz + (toks acc).length + out.length)) (nI wt2) op2 (putL (putL (I 80) (100 * fz) ((toks acc).map mcd)) (100 * fz + (toks acc).length) (out.map mcd)) ws2) 75 fz (nI (nz + 1))) = _; exact pI_out _ _ _ _ _ _ _ _ _ _ (by decide) (by decide) (by decide)) ?_
        refine v_aload_n dX9_goesText_40 rfl 1 rfl ?_
        refine v_get (v := .int ((pI (wr B2 75 fz (nI (nz + 1))) (nI (clR tx lt fd ag).1) dg2 (nI (100 * fz + (toks acc).length + out.length)) (nI wt2) op2 (putL (putL (I 80) (100 * fz) ((toks acc).map mcd)) (100 * fz + (toks acc).length) (out.map mcd)) ws2) 65 13)) fa_X9_50 dX9_goesText_41 rfl (by decide) (ltn rfl) rfl ?_
        refine v_is (y := nI (clR tx lt fd ag).1) (by rfl) ?_
        refine v_aload_n dX9_goesText_44 rfl 1 rfl ?_
        refine v_get (v := .int ((pI (wr B2 75 fz (nI (nz + 1))) (nI (clR tx lt fd ag).1) dg2 (nI (100 * fz + (toks acc).length + out.length)) (nI wt2) op2 (putL (putL (I 80) (100 * fz) ((toks acc).map mcd)) (100 * fz + (toks acc).length) (out.map mcd)) ws2) 65 12)) fa_X9_47 dX9_goesText_45 rfl (by decide) (ltn rfl) rfl ?_
        refine v_is (y := nI fd) (by exact hfd) ?_
        refine v_icmp_neN (a := (clR tx lt fd ag).1) (b := fd) (tgt := 53) dX9_goesText_48 (by decide) rfl rfl (by omega) (by omega) (fun h11 => ?_) (fun h11 => ?_)
        · refine v_iload_n dX9_goesText_53 rfl 0 rfl ?_
          refine v_bipush (v := 10) dX9_goesText_54 (by decide) ?_
          refine v_icmp_eqN (a := nz + 1) (b := 10) (tgt := 68) dX9_goesText_56 (by decide) rfl rfl (by omega) (by omega) (fun hq => by exfalso; omega) (fun _ => ?_)
          refine v_aload_n dX9_goesText_59 rfl 1 rfl ?_
          refine v_bipush (v := 59) dX9_goesText_60 (by decide) ?_
          refine v_callVi (As := [.int 59]) (rest := []) lk_X9_253 (c_X9_takes (I := (wr B2 75 fz (nI (nz + 1)))) 59 ((clR tx lt fd ag).1) dg2 (100 * fz + (toks acc).length + out.length) wt2 op2 (putL (putL (I 80) (100 * fz) ((toks acc).map mcd)) (100 * fz + (toks acc).length) (out.map mcd)) ws2 fd hf hfd tx htx (by omega)) dX9_goesText_62 rfl (ltn rfl) rfl rfl (Nat.le_of_ble_eq_true rfl) (by decide) ?_
          refine v_ifb_ne (tgt := 15) dX9_goesText_65 (by decide) (fun h13 => ?_) (fun h13 => ?_)
          · -- (nxt tx fd ((clR tx lt fd ag).1) = 59)
            refine v_I (I2 := (pI (wr B2 75 fz (nI (nz + 1))) (nI ((clR tx lt fd ag).1 + 1)) dg2 (nI (100 * fz + (toks acc).length + out.length)) (nI wt2) op2 (putL (putL (I 80) (100 * fz) ((toks acc).map mcd)) (100 * fz + (toks acc).length) (out.map mcd)) ws2)) (by rw [ifc_t h13]) ?_
            have hlx := nxt_eq h13 (by decide)
            have e2 : putL (putL (I 80) (100 * fz) ((toks acc).map mcd)) (100 * fz + (toks acc).length) (out.map mcd) = putL (I 80) (100 * fz) ((toks (acc ++ [(cw, ck, out)])).map mcd) := by
              have h := putL_app ((toks acc).map mcd) (out.map mcd) (I 80) (100 * fz)
              rw [List.length_map] at h
              rw [h, toks_app, toks_one, List.map_append]
            have e3 : 100 * fz + (toks acc).length + out.length = 100 * fz + (toks (acc ++ [(cw, ck, out)])).length := by rw [toks_app, toks_one, List.length_append, Nat.add_assoc]
            have e4 : (toks (acc ++ [(cw, ck, out)])).length = (toks acc).length + out.length := by rw [toks_app, toks_one, List.length_append]
            have hok3 : out.length + ag ≤ _ := hok.2.2
            rw [e2, e3]
            exact ih (nz + 1) _ _ _ _ _ _ (acc ++ [(cw, ck, out)]) (by omega) (by rw [List.length_append, hnl]; rfl) (by omega) (by omega) (tjn_75 hT2 _) (enc_keep (B := B2) _ _ _ (fun j h1 h2 => ⟨rfl, rfl, rfl, rfl⟩) (enc_snoc _ _ _ henc2 (by rw [hnl]; exact h76) (by rw [hnl]; exact h77) (by rw [hnl]; exact h78))) (by rw [← hZ, txR_go hc h11 (by intro q; rcases q with q | q; (exact absurd q (by omega)); exact q h13)])
          · -- not (nxt tx fd ((clR tx lt fd ag).1) = 59)
            refine v_I (I2 := (pI (wr B2 75 fz (nI (nz + 1))) (nI (clR tx lt fd ag).1) dg2 (nI (100 * fz + (toks acc).length + out.length)) (nI wt2) op2 (putL (putL (I 80) (100 * fz) ((toks acc).map mcd)) (100 * fz + (toks acc).length) (out.map mcd)) ws2)) (by rw [ifc_f h13]) ?_
            refine v_iconst (v := 0) dX9_goesText_68 (by decide) ?_
            exact v_zret hr dX9_goesText_69 (by first | rfl | exact nbq) (by (rw [← hZ, txR_bad hc h11 (Or.inr h13)]; exact ptx_no (tjn_75 hT2 _) (fun j hj => hpl _ j hj)))
        · refine v_iconst (v := 1) dX9_goesText_51 (by decide) ?_
          exact v_zret hr dX9_goesText_52 (by first | rfl | exact nbq) (by (rw [← hZ, txR_end hc h11]; exact ptx_yes (tjn_75 hT2 _) (by omega) (by rw [← hnl]; exact up_at _ _ _) (enc_keep (B := B2) _ _ _ (fun j h1 h2 => ⟨rfl, rfl, rfl, rfl⟩) (enc_snoc _ _ _ henc2 (by rw [hnl]; exact h76) (by rw [hnl]; exact h77) (by rw [hnl]; exact h78))) (by show (toks acc).length + out.length ≤ 100; have hok3 : out.length + ag ≤ _ := hok.2.2; omega)))
      · -- not ((clR tx lt fd ag).2.isSome = true)
        refine v_iconst (v := 0) dX9_goesText_28 (by decide) ?_
        exact v_zret hr dX9_goesText_29 (by first | rfl | exact nbq) (by (rw [← hZ, txR_no h9]; exact ptx_no hT2 (fun j hj => hpl _ j hj)))
  refine v_I (I2 := (pI I (nI az) (I 65 14) (nI sz) (nI wz) (I 65 25) (I 80) (I 81))) (by rw [← haz, ← hsz, ← hwz]; exact pI_self I) ?_
  refine v_aload_n dX9_goesText_0 rfl 0 rfl ?_
  refine v_iconst (v := 0) dX9_goesText_1 (by decide) ?_
  refine v_puti pa_X9_50 dX9_goesText_2 rfl (by decide) (ltn rfl) (by show 13 < 73; decide) rfl ?_
  refine v_aload_n dX9_goesText_5 rfl 0 rfl ?_
  refine v_bipush (v := 100) dX9_goesText_6 (by decide) ?_
  refine v_iload_n dX9_goesText_8 rfl 1 rfl ?_
  refine v_imul dX9_goesText_9 ?_
  refine v_is (nx_mul rfl rfl) ?_
  refine v_puti pa_X9_80 dX9_goesText_10 rfl (by decide) (ltn rfl) (by show 23 < 73; decide) rfl ?_
  refine v_iconst (v := 0) dX9_goesText_13 (by decide) ?_
  refine v_istore_n (lv2 := [(2, .int 0), (0, .ref (g.1 + 65)), (1, .int (nI fz))]) dX9_goesText_14 rfl (by decide) rfl ?_
  refine v_I (I2 := (pI I (nI 0) (I 65 14) (nI (100 * fz + (toks []).length)) (nI wz) (I 65 25) (putL (I 80) (100 * fz) ((toks []).map mcd)) (I 81))) (by show (wr (wr (pI I (nI az) (I 65 14) (nI sz) (nI wz) (I 65 25) (I 80) (I 81)) 65 13 0) 65 23 (nI (100 * fz))) = _; rw [pI_at, pI_sg]; rfl) ?_
  refine v_lv (lv2 := [(2, .int (nI 0)), (0, .ref (g.1 + 65)), (1, .int (nI fz))]) (by rfl) ?_
  exact key 9 0 0 _ _ _ _ _ [] rfl rfl (Nat.zero_le _) (Nat.zero_le _) (tjn_0 _ _) trivial rfl
