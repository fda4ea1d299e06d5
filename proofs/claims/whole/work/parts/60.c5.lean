theorem bcI_all {n : Nat} (hn : n < 65536) {y0 y1 y2 y3 y4 : Int32} (h0 : y0 = nI n - (ush (nI n) 1 &&& 1431655765)) (h1 : y1 = (y0 &&& 858993459) + (ush y0 2 &&& 858993459)) (h2 : y2 = (y1 + ush y1 4) &&& 252645135) (h3 : y3 = y2 + ush y2 8) (h4 : y4 = y3 + ush y3 16) : y4 &&& 63 = nI (bcN n) := by
  obtain ⟨e0, b0⟩ := bcI1 hn
  obtain ⟨e1, b1⟩ := bcI2 b0
  obtain ⟨e2, b2⟩ := bcI3 b1
  obtain ⟨e3, b3⟩ := bcI4 b2
  rw [h4, h3, h2, h1, h0, e0, e1, e2, e3, bcI5 b3, show (63 : Int32) = nI 63 from rfl, nx_and]; rfl
set_option maxRecDepth 100000 in
set_option maxHeartbeats 400000 in
theorem c_bitCount0 {g : Gl} {I : Ty} {L : TL} {na nt ni m : Nat} {nl : Nat → Nat} (nz : Nat) (hnz : nz < 65536) : Ct g yJ6_bitCount_0f7a4 cJ6_bitCount_0f7a4 1 (some .int) 0 0 0 [.int (nI nz)] I L (RT na nt ni) (NT nl) (NB + m) (Ps (some (.int (nI (bcN nz)))) (I) L (RT na nt ni) (NT nl) (NB + m)) := by
  refine ct_of (by decide +kernel) (Nat.le_of_ble_eq_true rfl) (fun F hnm hr => ?_)
  clear hnm
  show V g F cJ6_bitCount_0f7a4 RJ6 1 0 0 [(0, .int (nI nz))] [] I L (RT na nt ni) (NT nl) (NB + m) 0 0
  refine v_iload_n dJ6_bitCount_0f7a4_0 rfl 0 rfl ?_
  refine v_iload_n dJ6_bitCount_0f7a4_1 rfl 0 rfl ?_
  refine v_iconst (v := 1) dJ6_bitCount_0f7a4_2 (by decide) ?_
  refine v_iushr dJ6_bitCount_0f7a4_3 ?_
  refine v_ldcw dJ6_bitCount_0f7a4_4 uc_J6_265 ?_
  refine v_iand dJ6_bitCount_0f7a4_7 ?_
  refine v_isub dJ6_bitCount_0f7a4_8 ?_
  refine v_topi (fun ty0 hty0 => ?_)
  refine v_istore_n (lv2 := [(0, .int ty0)]) dJ6_bitCount_0f7a4_9 rfl (by decide) rfl ?_
  refine v_iload_n dJ6_bitCount_0f7a4_10 rfl 0 rfl ?_
  refine v_ldcw dJ6_bitCount_0f7a4_11 uc_J6_266 ?_
  refine v_iand dJ6_bitCount_0f7a4_14 ?_
  refine v_iload_n dJ6_bitCount_0f7a4_15 rfl 0 rfl ?_
  refine v_iconst (v := 2) dJ6_bitCount_0f7a4_16 (by decide) ?_
  refine v_iushr dJ6_bitCount_0f7a4_17 ?_
  refine v_ldcw dJ6_bitCount_0f7a4_18 uc_J6_266 ?_
  refine v_iand dJ6_bitCount_0f7a4_21 ?_
  refine v_iadd dJ6_bitCount_0f7a4_22 ?_
  refine v_topi (fun ty1 hty1 => ?_)
  refine v_istore_n (lv2 := [(0, .int ty1)]) dJ6_bitCount_0f7a4_23 rfl (by decide) rfl ?_
  refine v_iload_n dJ6_bitCount_0f7a4_24 rfl 0 rfl ?_
  refine v_iload_n dJ6_bitCount_0f7a4_25 rfl 0 rfl ?_
  refine v_iconst (v := 4) dJ6_bitCount_0f7a4_26 (by decide) ?_
  refine v_iushr dJ6_bitCount_0f7a4_27 ?_
  refine v_iadd dJ6_bitCount_0f7a4_28 ?_
  refine v_ldcw dJ6_bitCount_0f7a4_29 uc_J6_267 ?_
  refine v_iand dJ6_bitCount_0f7a4_32 ?_
  refine v_topi (fun ty2 hty2 => ?_)
  refine v_istore_n (lv2 := [(0, .int ty2)]) dJ6_bitCount_0f7a4_33 rfl (by decide) rfl ?_
  refine v_iload_n dJ6_bitCount_0f7a4_34 rfl 0 rfl ?_
  refine v_iload_n dJ6_bitCount_0f7a4_35 rfl 0 rfl ?_
  refine v_bipush (v := 8) dJ6_bitCount_0f7a4_36 (by decide) ?_
  refine v_iushr dJ6_bitCount_0f7a4_38 ?_
  refine v_iadd dJ6_bitCount_0f7a4_39 ?_
  refine v_topi (fun ty3 hty3 => ?_)
  refine v_istore_n (lv2 := [(0, .int ty3)]) dJ6_bitCount_0f7a4_40 rfl (by decide) rfl ?_
  refine v_iload_n dJ6_bitCount_0f7a4_41 rfl 0 rfl ?_
  refine v_iload_n dJ6_bitCount_0f7a4_42 rfl 0 rfl ?_
  refine v_bipush (v := 16) dJ6_bitCount_0f7a4_43 (by decide) ?_
  refine v_iushr dJ6_bitCount_0f7a4_45 ?_
  refine v_iadd dJ6_bitCount_0f7a4_46 ?_
  refine v_topi (fun ty4 hty4 => ?_)
  refine v_istore_n (lv2 := [(0, .int ty4)]) dJ6_bitCount_0f7a4_47 rfl (by decide) rfl ?_
  refine v_iload_n dJ6_bitCount_0f7a4_48 rfl 0 rfl ?_
  refine v_bipush (v := 63) dJ6_bitCount_0f7a4_49 (by decide) ?_
  refine v_iand dJ6_bitCount_0f7a4_51 ?_
  exact v_iret hr dJ6_bitCount_0f7a4_52 (psi (bcI_all hnz hty0 hty1 hty2 hty3 hty4) rfl)
theorem c_bitCount {g : Gl} {I : Ty} {L : TL} {na nt ni m : Nat} {nl : Nat → Nat} {xz : Int32} (hxz : inr xz 65536) : Ct g yJ6_bitCount_0f7a4 cJ6_bitCount_0f7a4 1 (some .int) 0 0 0 [.int xz] I L (RT na nt ni) (NT nl) (NB + m) (Ps (some (.int (nI (bitc xz 16)))) (I) L (RT na nt ni) (NT nl) (NB + m)) := by
  obtain ⟨n, rfl, hn, _, _⟩ := inr_ex hxz (by omega)
  rw [bitc_pop, ← (bc_all hn).1]
  exact c_bitCount0 n hn
theorem v_mmax {g : Gl} {F : Fx} {cc : ByteArray} {own : String} {nL d pc : Nat} {lv : List (Nat × Value)} {st : List Value} {I : Ty} {L : TL} {R : TR} {N : TN} {n kr sr : Nat} {index : Nat} {x y : Int32} (hl : LkS own index yJ9_max_7cf53 cJ9_max_7cf53 2 (some .int) 2) (hd : decode cc pc = .ok (.invokestatic index, 3)) (hd1 : 1 ≤ d) (hst : st.length ≤ 4)
    (k : V g F cc own nL d (pc + 3) lv (.int (if x < y then y else x) :: st) I L R N n kr sr) : V g F cc own nL d pc lv (.int y :: .int x :: st) I L R N n kr sr := by
  obtain ⟨⟨hlk, hcode, hini, -, -, -⟩, hstat⟩ := hl
  intro hF H locs ls kc ks h1 h2 hH hL hlv; obtain ⟨p, l, e, Rm, s, m, args, below, meth, c, Q⟩ := F
  obtain ⟨hx, hb, hml, ho, hts, hE, hf1, hf2⟩ := id hF
  have hcs := cat_sum st
  exact va_mmax hx hb (hml.trans hlv.1.symm) ho (hts _ hlk) (hts _ hstat) (hts _ hini) (hts _ hcode) (by show 1 ≤ Rm.frames; omega) (by show _ + 13 ≤ Rm.locals; omega) (Nat.le_trans (Nat.le_add_right _ _) h1) (Nat.le_trans (Nat.le_add_right _ _) h2) hd (k hF H locs ls kc ks h1 h2 hH hL hlv)
theorem v_mmin {g : Gl} {F : Fx} {cc : ByteArray} {own : String} {nL d pc : Nat} {lv : List (Nat × Value)} {st : List Value} {I : Ty} {L : TL} {R : TR} {N : TN} {n kr sr : Nat} {index : Nat} {x y : Int32} (hl : LkS own index yJ9_min_7cf53 cJ9_min_7cf53 2 (some .int) 2) (hd : decode cc pc = .ok (.invokestatic index, 3)) (hd1 : 1 ≤ d) (hst : st.length ≤ 4)
    (k : V g F cc own nL d (pc + 3) lv (.int (if y < x then y else x) :: st) I L R N n kr sr) : V g F cc own nL d pc lv (.int y :: .int x :: st) I L R N n kr sr := by
  obtain ⟨⟨hlk, hcode, hini, -, -, -⟩, hstat⟩ := hl
  intro hF H locs ls kc ks h1 h2 hH hL hlv; obtain ⟨p, l, e, Rm, s, m, args, below, meth, c, Q⟩ := F
  obtain ⟨hx, hb, hml, ho, hts, hE, hf1, hf2⟩ := id hF
  have hcs := cat_sum st
  exact va_mmin hx hb (hml.trans hlv.1.symm) ho (hts _ hlk) (hts _ hstat) (hts _ hini) (hts _ hcode) (by show 1 ≤ Rm.frames; omega) (by show _ + 13 ≤ Rm.locals; omega) (Nat.le_trans (Nat.le_add_right _ _) h1) (Nat.le_trans (Nat.le_add_right _ _) h2) hd (k hF H locs ls kc ks h1 h2 hH hL hlv)
set_option maxRecDepth 100000 in
set_option maxHeartbeats 400000 in
theorem c_X7_near {g : Gl} {I : Ty} {L : TL} {na nt ni m : Nat} {nl : Nat → Nat} (xz : Int32)  : Ct g yX7_near cX7_near 2 (some .int) 0 0 0 [.int xz] I L (RT na nt ni) (NT nl) (NB + m) (Ps (some (.int (nearI xz))) (I) L (RT na nt ni) (NT nl) (NB + m)) := by
  refine ct_of (by decide +kernel) (Nat.le_of_ble_eq_true rfl) (fun F hnm hr => ?_)
  clear hnm
  show V g F cX7_near RX7 2 0 0 [(0, .int xz)] [] I L (RT na nt ni) (NT nl) (NB + m) 0 0
  refine v_iload_n dX7_near_0 rfl 0 rfl ?_
  refine v_sipush (v := 30583) dX7_near_1 (by decide) ?_
  refine v_iand dX7_near_4 ?_
  refine v_iconst (v := 1) dX7_near_5 (by decide) ?_
  refine v_ishl dX7_near_6 ?_
  refine v_iload_n dX7_near_7 rfl 0 rfl ?_
  refine v_iconst (v := 1) dX7_near_8 (by decide) ?_
  refine v_iushr dX7_near_9 ?_
  refine v_sipush (v := 30583) dX7_near_10 (by decide) ?_
  refine v_iand dX7_near_13 ?_
  refine v_ior dX7_near_14 ?_
  refine v_istore_n (lv2 := [(1, .int (((xz &&& 30583) <<< (1 &&& 31)) ||| (((xz).toUInt32 >>> (Int32.toUInt32 1 &&& Int32.toUInt32 31)).toInt32 &&& 30583))), (0, .int xz)]) dX7_near_15 rfl (by decide) rfl ?_
  refine v_iload_n dX7_near_16 rfl 1 rfl ?_
  refine v_iconst (v := 4) dX7_near_17 (by decide) ?_
  refine v_ishl dX7_near_18 ?_
  refine v_iload_n dX7_near_19 rfl 1 rfl ?_
  refine v_iconst (v := 4) dX7_near_20 (by decide) ?_
  refine v_iushr dX7_near_21 ?_
  refine v_ior dX7_near_22 ?_
  refine v_iload_n dX7_near_23 rfl 0 rfl ?_
  refine v_ior dX7_near_24 ?_
  refine v_ldc dX7_near_25 uc_X7_11 ?_
  refine v_iand dX7_near_27 ?_
  exact v_iret hr dX7_near_28 (psi (by rfl) rfl)
theorem c_X7_leastB {g : Gl} {I : Ty} {L : TL} {na nt ni m : Nat} {nl : Nat → Nat} {xz : Int32} (hxz : inr xz 65536) (hx0 : ¬ xz = 0) : Ct g yJ6_bitCount_0f7a4 cJ6_bitCount_0f7a4 1 (some .int) 0 0 0 [.int ((xz &&& (-xz)) - 1)] I L (RT na nt ni) (NT nl) (NB + m) (Ps (some (.int (nI (lowR xz)))) (I) L (RT na nt ni) (NT nl) (NB + m)) := by
  obtain ⟨e, h⟩ := lowR_I hxz hx0
  rw [e]
  obtain ⟨h2, h3⟩ := h
  have h4 := inr_lt ⟨h2, h3⟩
  have e5 : lowN (tn xz) < 65536 := by
    have h6 : lowN (tn xz) ≤ tn xz := Nat.le_trans (Nat.sub_le _ _) Nat.and_le_left
    have h7 := inr_lt hxz
    omega
  exact c_bitCount0 _ e5
set_option maxRecDepth 100000 in
set_option maxHeartbeats 400000 in
theorem c_X7_least {g : Gl} {I : Ty} {L : TL} {na nt ni m : Nat} {nl : Nat → Nat} (xz : Int32) (hxz : inr xz 65536) (hx0 : ¬ xz = 0) : Ct g yX7_least cX7_least 1 (some .int) 1 0 0 [.int xz] I L (RT na nt ni) (NT nl) (NB + m) (Ps (some (.int (nI (lowR xz)))) (I) L (RT na nt ni) (NT nl) (NB + m)) := by
  refine ct_of (by decide +kernel) (Nat.le_of_ble_eq_true rfl) (fun F hnm hr => ?_)
  clear hnm
  show V g F cX7_least RX7 1 1 0 [(0, .int xz)] [] I L (RT na nt ni) (NT nl) (NB + m) 0 0
  refine v_iload_n dX7_least_0 rfl 0 rfl ?_
  refine v_iload_n dX7_least_1 rfl 0 rfl ?_
  refine v_ineg dX7_least_2 ?_
  refine v_iand dX7_least_3 ?_
  refine v_iconst (v := 1) dX7_least_4 (by decide) ?_
  refine v_isub dX7_least_5 ?_
  refine v_callSi (As := [.int ((xz &&& (-xz)) - 1)]) (rest := []) lk_X7_12 (c_X7_leastB hxz hx0) dX7_least_6 rfl rfl (Nat.le_of_ble_eq_true rfl) (by decide) ?_
  exact v_iret hr dX7_least_9 (psi (by rfl) rfl)
set_option maxRecDepth 100000 in
set_option maxHeartbeats 400000 in
theorem c_X7_firstCell {g : Gl} {I : Ty} {L : TL} {na nt ni m : Nat} {nl : Nat → Nat} (bz : Nat) (gl : Nat) (st : Int32) (hbz : bz < 16) (hgl : gl < 16) : Ct g yX7_firstCell cX7_firstCell 7 (some .int) 2 0 0 [.int (nI bz), .int (nI gl), .int st] I L (RT na nt ni) (NT nl) (NB + m) (Ps (some (.int (fcV st bz gl))) (I) L (RT na nt ni) (NT nl) (NB + m)) := by
  refine ct_of (by decide +kernel) (Nat.le_of_ble_eq_true rfl) (fun F hnm hr => ?_)
  clear hnm
  show V g F cX7_firstCell RX7 7 2 0 [(0, .int (nI bz)), (1, .int (nI gl)), (2, .int st)] [] I L (RT na nt ni) (NT nl) (NB + m) 0 0
  refine v_iconst (v := 1) dX7_firstCell_0 (by decide) ?_
  refine v_iload_n dX7_firstCell_1 rfl 0 rfl ?_
  refine v_ishl dX7_firstCell_2 ?_
  refine v_callSi (As := [.int (1 <<< (nI bz &&& 31))]) (rest := []) lk_X7_18 (c_X7_near (1 <<< (nI bz &&& 31))) dX7_firstCell_3 rfl rfl (Nat.le_of_ble_eq_true rfl) (by decide) ?_
  refine v_istore_n (lv2 := [(3, .int (nearI (1 <<< (nI bz &&& 31)))), (0, .int (nI bz)), (1, .int (nI gl)), (2, .int st)]) dX7_firstCell_6 rfl (by decide) rfl ?_
  refine v_iconst (v := 1) dX7_firstCell_7 (by decide) ?_
  refine v_iload_n dX7_firstCell_8 rfl 2 rfl ?_
  refine v_ishl dX7_firstCell_9 ?_
  refine v_iload_n dX7_firstCell_10 rfl 3 rfl ?_
  refine v_iconst (v := (-1)) dX7_firstCell_11 (by decide) ?_
  refine v_ixor dX7_firstCell_12 ?_
  refine v_iand dX7_firstCell_13 ?_
  refine v_istore (lv2 := [(4, .int ((1 <<< (nI gl &&& 31)) &&& (st ^^^ (-1)))), (3, .int (nearI (1 <<< (nI bz &&& 31)))), (0, .int (nI bz)), (1, .int (nI gl)), (2, .int st)]) dX7_firstCell_14 (by decide) rfl ?_
  refine v_iconst (v := 0) dX7_firstCell_16 (by decide) ?_
  refine v_istore (lv2 := [(5, .int 0), (4, .int ((1 <<< (nI gl &&& 31)) &&& (st ^^^ (-1)))), (3, .int (nearI (1 <<< (nI bz &&& 31)))), (0, .int (nI bz)), (1, .int (nI gl)), (2, .int st)]) dX7_firstCell_17 (by decide) rfl ?_
  refine v_lv (lv2 := [(5, .int (nI 0)), (4, .int (flo st (flB st gl) 0)), (3, .int (nearI ((1 : Int32) <<< (nI bz &&& 31)))), (0, .int (nI bz)), (1, .int (nI gl)), (2, .int st)]) (by rfl) ?_
  refine dloop (P := fun i => (∀ j, j < i → (fcY st bz gl j) = 0) → V g F cX7_firstCell RX7 7 2 19 [(5, .int (nI i)), (4, .int (flo st (flB st gl) i)), (3, .int (nearI ((1 : Int32) <<< (nI bz &&& 31)))), (0, .int (nI bz)), (1, .int (nI gl)), (2, .int st)] [] I L (RT na nt ni) (NT nl) (NB + m) 0 0) 16 ?_ ?_ 0 (Nat.zero_le _) (fun j h => absurd h (Nat.not_lt_zero j))
  · intro hinv
    refine v_iload dX7_firstCell_19 0 rfl ?_
    refine v_bipush (v := 16) dX7_firstCell_21 (by decide) ?_
    refine v_icmp_geN (a := 16) (b := 16) (tgt := 74) dX7_firstCell_23 (by decide) rfl rfl (by omega) (by omega) (fun h1 => ?_) (fun h => by exfalso; omega)
    refine v_iconst (v := (-1)) dX7_firstCell_74 (by decide) ?_
    exact v_iret hr dX7_firstCell_75 (psi (fc_none hbz hgl hinv).symm rfl)
  · intro i hi ih
    intro hinv
    refine v_iload dX7_firstCell_19 0 rfl ?_
    refine v_bipush (v := 16) dX7_firstCell_21 (by decide) ?_
    refine v_icmp_geN (a := i) (b := 16) (tgt := 74) dX7_firstCell_23 (by decide) rfl rfl (by omega) (by omega) (fun h => by exfalso; omega) (fun h2 => ?_)
    refine v_iload dX7_firstCell_26 1 rfl ?_
    refine v_iload_n dX7_firstCell_28 rfl 2 rfl ?_
    refine v_iand dX7_firstCell_29 ?_
    refine v_if_eq (tgt := 41) dX7_firstCell_30 (by decide) (fun h4 => ?_) (fun h4 => ?_)
    · have hy0 : (fcY st bz gl i) = 0 := h4
      refine v_iload dX7_firstCell_41 1 rfl ?_
      refine v_iload dX7_firstCell_43 1 rfl ?_
      refine v_callSi (As := [.int (flo st (flB st gl) i)]) (rest := [.int (flo st (flB st gl) i)]) lk_X7_18 (c_X7_near (flo st (flB st gl) i)) dX7_firstCell_45 rfl rfl (Nat.le_of_ble_eq_true rfl) (by decide) ?_
      refine v_iload_n dX7_firstCell_48 rfl 5 rfl ?_
      refine v_iconst (v := (-1)) dX7_firstCell_49 (by decide) ?_
      refine v_ixor dX7_firstCell_50 ?_
      refine v_iand dX7_firstCell_51 ?_
      refine v_ior dX7_firstCell_52 ?_
      refine v_istore (lv2 := [(6, .int ((flo st (flB st gl) i) ||| ((nearI (flo st (flB st gl) i)) &&& (st ^^^ (-1))))), (5, .int (nI i)), (4, .int (flo st (flB st gl) i)), (3, .int (nearI ((1 : Int32) <<< (nI bz &&& 31)))), (0, .int (nI bz)), (1, .int (nI gl)), (2, .int st)]) dX7_firstCell_53 (by decide) rfl ?_
      refine v_iload dX7_firstCell_55 0 rfl ?_
      refine v_iload dX7_firstCell_57 2 rfl ?_
      refine v_icmp_ne (tgt := 64) dX7_firstCell_59 (by decide) (fun h6 => ?_) (fun h6 => ?_)
      · refine v_iload dX7_firstCell_64 0 rfl ?_
        refine v_istore (lv2 := [(4, .int ((flo st (flB st gl) i) ||| ((nearI (flo st (flB st gl) i)) &&& (st ^^^ (-1))))), (6, .int ((flo st (flB st gl) i) ||| ((nearI (flo st (flB st gl) i)) &&& (st ^^^ (-1))))), (5, .int (nI i)), (3, .int (nearI ((1 : Int32) <<< (nI bz &&& 31)))), (0, .int (nI bz)), (1, .int (nI gl)), (2, .int st)]) dX7_firstCell_66 (by decide) rfl ?_
        refine v_inc (v := nI (i + 1)) (lv2 := [(5, .int (nI (i + 1))), (4, .int ((flo st (flB st gl) i) ||| ((nearI (flo st (flB st gl) i)) &&& (st ^^^ (-1))))), (6, .int ((flo st (flB st gl) i) ||| ((nearI (flo st (flB st gl) i)) &&& (st ^^^ (-1))))), (3, .int (nearI ((1 : Int32) <<< (nI bz &&& 31)))), (0, .int (nI bz)), (1, .int (nI gl)), (2, .int st)]) dX7_firstCell_68 2 rfl (nx_inc rfl) (by decide) rfl ?_
        refine v_goto (tgt := 19) dX7_firstCell_71 (by decide) ?_
        refine v_sub (lv2 := [(5, .int (nI (i + 1))), (4, .int ((flo st (flB st gl) i) ||| ((nearI (flo st (flB st gl) i)) &&& (st ^^^ (-1))))), (3, .int (nearI ((1 : Int32) <<< (nI bz &&& 31)))), (0, .int (nI bz)), (1, .int (nI gl)), (2, .int st)]) [0, 1, 3, 4, 5, 6] rfl ?_
        refine v_lv (lv2 := [(5, .int (nI (i + 1))), (4, .int (flo st (flB st gl) (i + 1))), (3, .int (nearI ((1 : Int32) <<< (nI bz &&& 31)))), (0, .int (nI bz)), (1, .int (nI gl)), (2, .int st)]) (by rfl) ?_
        exact ih (lt_s hinv hy0)
      · refine v_iconst (v := (-1)) dX7_firstCell_62 (by decide) ?_
        exact v_iret hr dX7_firstCell_63 (psi (fc_stop hbz hgl hinv hy0 h6).symm rfl)
    · have hy1 : ¬ (fcY st bz gl i) = 0 := h4
      have hlr := lowR_ok (s16_inr.mp (fcY_16 (st := st) (b := bz) (gl := gl) (i := i))) hy1
      refine v_iload dX7_firstCell_33 1 rfl ?_
      refine v_iload_n dX7_firstCell_35 rfl 2 rfl ?_
      refine v_iand dX7_firstCell_36 ?_
      refine v_is (y := (fcY st bz gl i)) rfl ?_
      refine v_callSi (As := [.int (fcY st bz gl i)]) (rest := []) lk_X7_21 (c_X7_least (fcY st bz gl i) (s16_inr.mp fcY_16) hy1) dX7_firstCell_37 rfl rfl (Nat.le_of_ble_eq_true rfl) (by decide) ?_
      exact v_iret hr dX7_firstCell_40 (psi (fc_hit hbz hgl hi hinv hlr.1 hlr.2.1 hlr.2.2).symm rfl)
