noncomputable def hdW (tx : Nat → Int32) (fd a : Nat) : Int32 := ifc (nxt tx fd a = 111) 0 (ifc (nxt tx fd a = 115) 1 2)
noncomputable def hdF (tx : Nat → Int32) (fd a : Nat) : Nat := ifc (nxt tx fd a = 111) 0 (ifc (nxt tx fd a = 115) 4 8)
noncomputable def hdL (tx lt : Nat → Int32) (fd a : Nat) : Nat := wl tx lt fd (hdF tx fd a) 4 a
set_option maxRecDepth 100000 in
set_option maxHeartbeats 400000 in
theorem c_X9_takesHead {g : Gl} {I : Ty} {L : TL} {na nt ni m : Nat} {nl : Nat → Nat} (cz : Nat) (az : Nat) (dz : Int32) (sz wz : Nat) (oz : Int32) (sn ws : Nat → Int32) (fd : Nat) (hf : fd ≤ 100) (hfd : I 65 12 = nI fd) (tx : Nat → Int32) (htx : I 74 = tx) (hcz : cz < 60) (ha : az ≤ 900) (lt : Nat → Int32) (hlt : I 82 = lt) : Ct g yX9_takesHead cX9_takesHead 2 (some .boolean) 3 0 0 [.ref (g.1 + 65), .int (nI cz)] (pI I (nI az) dz (nI sz) (nI wz) oz sn ws) L (RT na nt ni) (NT nl) (NB + m) (Ps (some (.int (bq (hdL tx lt fd az = 4 + 1)))) (pI (wr I 76 cz (hdW tx fd az)) (nI (az + hdL tx lt fd az)) dz (nI sz) (nI wz) oz sn ws) L (RT na nt ni) (NT nl) (NB + m)) := by
  refine ct_of (by decide +kernel) (Nat.le_of_ble_eq_true rfl) (fun F hnm hr => ?_)
  clear hnm
  show V g F cX9_takesHead RX9 2 3 0 [(0, .ref (g.1 + 65)), (1, .int (nI cz))] [] (pI I (nI az) dz (nI sz) (nI wz) oz sn ws) L (RT na nt ni) (NT nl) (NB + m) 0 0
  refine v_aload_n dX9_takesHead_0 rfl 0 rfl ?_
  refine v_callVi (As := []) (rest := []) lk_X9_249 (c_X9_next (I := I) az dz sz wz oz sn ws fd hf hfd tx htx (by omega)) dX9_takesHead_1 rfl (ltn rfl) rfl rfl (Nat.le_of_ble_eq_true rfl) (by decide) ?_
  by_cases k1_111 : (nxt tx fd az) = 111
  · refine v_is k1_111 ?_
    refine v_look (off := 28) (tgt := 32) dX9_takesHead_4 (by decide) (by decide) (by decide) ?_
    refine v_aload_n dX9_takesHead_32 rfl 0 rfl ?_
    refine v_get (v := .ref (g.1 + 76)) fa_X9_62 dX9_takesHead_33 rfl (by decide) (ltn rfl) rfl ?_
    refine v_iload_n dX9_takesHead_36 rfl 1 rfl ?_
    refine v_iconst (v := 0) dX9_takesHead_37 (by decide) ?_
    refine v_iastore (len := 60) (j := cz) dX9_takesHead_38 rfl (ltn rfl) rfl (by decide) rfl (by omega) ?_
    refine v_I (I2 := (pI (wr I 76 cz 0) (nI az) dz (nI sz) (nI wz) oz sn ws)) (by show (wr (pI I (nI az) dz (nI sz) (nI wz) oz sn ws) 76 cz 0) = _; exact pI_out _ _ _ _ _ _ _ _ _ _ (by decide) (by decide) (by decide)) ?_
    refine v_aload_n dX9_takesHead_39 rfl 0 rfl ?_
    refine v_iconst (v := 0) dX9_takesHead_40 (by decide) ?_
    refine v_iconst (v := 4) dX9_takesHead_41 (by decide) ?_
    refine v_callVi (As := [.int 0, .int 4]) (rest := []) lk_X9_280 (c_X9_takesWord (I := (wr I 76 cz 0)) 0 4 az dz sz wz oz sn ws fd hf hfd tx htx (by omega) (by decide) lt hlt) dX9_takesHead_42 rfl (ltn rfl) rfl rfl (Nat.le_of_ble_eq_true rfl) (by decide) ?_
    exact v_zret hr dX9_takesHead_45 (by first | rfl | exact nbq) (⟨congrArg (fun z => some (Value.int z)) (by unfold hdL hdF; rw [ifc_t k1_111]), (by unfold hdL hdF hdW; simp only [ifc_t k1_111]), rfl, rfl, rfl, rfl⟩)
  by_cases k1_115 : (nxt tx fd az) = 115
  · refine v_is k1_115 ?_
    refine v_look (off := 42) (tgt := 46) dX9_takesHead_4 (by decide) (by decide) (by decide) ?_
    refine v_aload_n dX9_takesHead_46 rfl 0 rfl ?_
    refine v_get (v := .ref (g.1 + 76)) fa_X9_62 dX9_takesHead_47 rfl (by decide) (ltn rfl) rfl ?_
    refine v_iload_n dX9_takesHead_50 rfl 1 rfl ?_
    refine v_iconst (v := 1) dX9_takesHead_51 (by decide) ?_
    refine v_iastore (len := 60) (j := cz) dX9_takesHead_52 rfl (ltn rfl) rfl (by decide) rfl (by omega) ?_
    refine v_I (I2 := (pI (wr I 76 cz 1) (nI az) dz (nI sz) (nI wz) oz sn ws)) (by show (wr (pI I (nI az) dz (nI sz) (nI wz) oz sn ws) 76 cz 1) = _; exact pI_out _ _ _ _ _ _ _ _ _ _ (by decide) (by decide) (by decide)) ?_
    refine v_aload_n dX9_takesHead_53 rfl 0 rfl ?_
    refine v_iconst (v := 4) dX9_takesHead_54 (by decide) ?_
    refine v_iconst (v := 4) dX9_takesHead_55 (by decide) ?_
    refine v_callVi (As := [.int 4, .int 4]) (rest := []) lk_X9_280 (c_X9_takesWord (I := (wr I 76 cz 1)) 4 4 az dz sz wz oz sn ws fd hf hfd tx htx (by omega) (by decide) lt hlt) dX9_takesHead_56 rfl (ltn rfl) rfl rfl (Nat.le_of_ble_eq_true rfl) (by decide) ?_
    exact v_zret hr dX9_takesHead_59 (by first | rfl | exact nbq) (⟨congrArg (fun z => some (Value.int z)) (by unfold hdL hdF; rw [ifc_f (show ¬ nxt tx fd az = 111 by rw [k1_115]; decide), ifc_t k1_115]), (by unfold hdL hdF hdW; simp only [ifc_f (show ¬ nxt tx fd az = 111 by rw [k1_115]; decide), ifc_t k1_115]), rfl, rfl, rfl, rfl⟩)
  refine v_look (off := 56) (tgt := 60) dX9_takesHead_4 (by decide) (sw_lk _ _ _ (by intro q hq; have hq : q ∈ ([(111, 28), (115, 42)] : List (Int × Int)) := hq; simp only [List.mem_cons, List.not_mem_nil, or_false] at hq; rcases hq with rfl | rfl <;> first | exact sw_ne k1_111 (by decide) | exact sw_ne k1_115 (by decide))) (by decide) ?_
  refine v_aload_n dX9_takesHead_60 rfl 0 rfl ?_
  refine v_get (v := .ref (g.1 + 76)) fa_X9_62 dX9_takesHead_61 rfl (by decide) (ltn rfl) rfl ?_
  refine v_iload_n dX9_takesHead_64 rfl 1 rfl ?_
  refine v_iconst (v := 2) dX9_takesHead_65 (by decide) ?_
  refine v_iastore (len := 60) (j := cz) dX9_takesHead_66 rfl (ltn rfl) rfl (by decide) rfl (by omega) ?_
  refine v_I (I2 := (pI (wr I 76 cz 2) (nI az) dz (nI sz) (nI wz) oz sn ws)) (by show (wr (pI I (nI az) dz (nI sz) (nI wz) oz sn ws) 76 cz 2) = _; exact pI_out _ _ _ _ _ _ _ _ _ _ (by decide) (by decide) (by decide)) ?_
  refine v_aload_n dX9_takesHead_67 rfl 0 rfl ?_
  refine v_bipush (v := 8) dX9_takesHead_68 (by decide) ?_
  refine v_iconst (v := 4) dX9_takesHead_70 (by decide) ?_
  refine v_callVi (As := [.int 8, .int 4]) (rest := []) lk_X9_280 (c_X9_takesWord (I := (wr I 76 cz 2)) 8 4 az dz sz wz oz sn ws fd hf hfd tx htx (by omega) (by decide) lt hlt) dX9_takesHead_71 rfl (ltn rfl) rfl rfl (Nat.le_of_ble_eq_true rfl) (by decide) ?_
  exact v_zret hr dX9_takesHead_74 (by first | rfl | exact nbq) (⟨congrArg (fun z => some (Value.int z)) (by unfold hdL hdF; rw [ifc_f k1_111, ifc_f k1_115]), (by unfold hdL hdF hdW; simp only [ifc_f k1_111, ifc_f k1_115]), rfl, rfl, rfl, rfl⟩)
