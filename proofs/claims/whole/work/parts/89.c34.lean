set_option maxRecDepth 100000 in
set_option maxHeartbeats 1000000 in
theorem c_run_1_0 {g : Gl} {I : Ty} {L : TL} {na nt ni m : Nat} {nl : Nat → Nat} {rn : Nat} (xz : Int32) (dz : Nat) (hdz : dz ≤ 17) (hrn : rn + 22 ≤ 1000) (hre : I 18 0 = nI rn) (nu va : Int32) (hnu : I 18 1 = nu) (hva : I 18 3 = va) (kk : Nat) (hk7 : kk < 7) (hkk : I 18 2 = nI kk) : Ct g yX0_run cX0_run 8 (some .int) 3 0 0 [.ref (g.1 + 18), .int 1, .int 0, .int xz, .int (nI dz)] I L (RT na nt ni) (NT nl) (NB + m) (Ps (some (.int (knV (nI kk) nu va xz - va))) (ctr I rn (11 :: knT (nI kk))) L (RT na nt ni) (NT nl) (NB + m)) := by
  refine ct_of (by decide +kernel) (Nat.le_of_ble_eq_true rfl) (fun F hnm hr => ?_)
  clear hnm
  show V g F cX0_run RX0 8 3 0 [(0, .ref (g.1 + 18)), (1, .int 1), (2, .int 0), (3, .int xz), (4, .int (nI dz))] [] I L (RT na nt ni) (NT nl) (NB + m) 0 0
  refine v_bipush (v := 7) dX0_run_0 (by decide) ?_
  refine v_iload_n dX0_run_2 rfl 1 rfl ?_
  refine v_imul dX0_run_3 ?_
  refine v_is (y := 7) (by decide) ?_
  refine v_iload_n dX0_run_4 rfl 2 rfl ?_
  refine v_iadd dX0_run_5 ?_
  refine v_is (y := 7) (by decide) ?_
  refine v_istore (lv2 := [(5, .int 7), (0, .ref (g.1 + 18)), (1, .int 1), (2, .int 0), (3, .int xz), (4, .int (nI dz))]) dX0_run_6 (by decide) rfl ?_
  refine v_iload dX0_run_8 5 rfl ?_
  refine v_bipush (v := 20) dX0_run_10 (by decide) ?_
  refine v_icmp_gtN (a := dz) (b := 20) (tgt := 29) dX0_run_12 (by decide) rfl rfl (by omega) (by omega) (fun h => by exfalso; omega) (fun h1 => ?_)
  refine v_iload dX0_run_15 0 rfl ?_
  refine v_if_lt (tgt := 29) dX0_run_17 (by decide) (fun h2 => by first | exact absurd h2 (by decide) | exact absurd (by decide) h2) (fun _ => ?_)
  refine v_iload dX0_run_20 0 rfl ?_
  refine v_getSBODIES uf_X0_38 dX0_run_22 (fun tq3 htq3 => ?_)
  refine v_tlen htq3 dX0_run_25 ?_
  refine v_icmp_lt (tgt := 31) dX0_run_26 (by decide) (fun _ => ?_) (fun h4 => by first | exact absurd h4 (by decide) | exact absurd (by decide) h4)
  refine v_getSBODIES uf_X0_38 dX0_run_31 (fun tq5 htq5 => ?_)
  refine v_iload dX0_run_34 0 rfl ?_
  refine v_tiload (j := 7) htq5 dX0_run_36 rfl (by omega) (by decide) ?_
  refine v_is (y := 11) rfl ?_
  refine v_istore (lv2 := [(6, .int 11), (5, .int 7), (0, .ref (g.1 + 18)), (1, .int 1), (2, .int 0), (3, .int xz), (4, .int (nI dz))]) dX0_run_37 (by decide) rfl ?_
  refine v_aload_n dX0_run_39 rfl 2 rfl ?_
  refine v_iload dX0_run_40 0 rfl ?_
  refine v_callVv (As := [.int 11]) (rest := []) lk_X0_41 (c_X0_note 11 rn (by omega) hre) dX0_run_42 rfl (ltn rfl) rfl rfl (Nat.le_of_ble_eq_true rfl) (by decide) ?_
  refine v_I (I2 := (ctr I rn [11])) rfl ?_
  refine v_iload dX0_run_45 6 rfl ?_
  refine v_iconst (v := 1) dX0_run_47 (by decide) ?_
  refine v_iadd dX0_run_48 ?_
  refine v_is (nx_add rfl rfl) ?_
  refine v_istore (lv2 := [(7, .int (nI (dz + 1))), (6, .int 11), (5, .int 7), (0, .ref (g.1 + 18)), (1, .int 1), (2, .int 0), (3, .int xz), (4, .int (nI dz))]) dX0_run_49 (by decide) rfl ?_
  refine v_iload dX0_run_51 1 rfl ?_
  refine v_look (off := 106) (tgt := 159) dX0_run_53 (by decide) (by decide) (by decide) ?_
  refine v_aload_n dX0_run_159 rfl 3 rfl ?_
  refine v_iconst (v := 0) dX0_run_160 (by decide) ?_
  refine v_aload_n dX0_run_161 rfl 3 rfl ?_
  refine v_get (v := .int ((ctr I rn [11]) 18 2)) fa_X0_28 dX0_run_162 rfl (by decide) (ltn rfl) rfl ?_
  refine v_is (y := nI kk) (by exact (ctr_18 _ _ _ _ (by decide)).trans hkk) ?_
  refine v_iload_n dX0_run_165 rfl 6 rfl ?_
  refine v_iload dX0_run_166 0 rfl ?_
  refine v_callVi (As := [.int 0, .int (nI kk), .int xz, .int (nI (dz + 1))]) (rest := []) lk_X0_34 (c_run0 (I := (ctr I rn [11])) xz (dz + 1) (rn := rn + ([11] : List Int32).length) (by omega) (by have h1 := knT_len (nI kk); have h2 := drT_le5 (nI kk); simp only [List.length_cons, List.length_nil, List.length_append]; omega) (ctr_0 [11] I rn hre) nu va ((ctr_18 [11] I rn _ (by decide)).trans hnu) ((ctr_18 [11] I rn _ (by decide)).trans hva) kk hk7 ((ctr_18 [11] I rn _ (by decide)).trans hkk)) dX0_run_168 rfl (ltn rfl) rfl rfl (Nat.le_of_ble_eq_true rfl) (by decide) ?_
  refine v_I (I2 := (ctr I rn ([11] ++ (knT (nI kk))))) (ctr_app _ _ _ _) ?_
  refine v_aload_n dX0_run_171 rfl 3 rfl ?_
  refine v_get (v := .int ((ctr I rn ([11] ++ (knT (nI kk)))) 18 3)) fa_X0_31 dX0_run_172 rfl (by decide) (ltn rfl) rfl ?_
  refine v_is (y := va) (by exact (ctr_18 _ _ _ _ (by decide)).trans hva) ?_
  refine v_isub dX0_run_175 ?_
  exact v_iret hr dX0_run_176 (⟨congrArg (fun z => some (Value.int z)) rfl, (congrArg (ctr I rn) (show ([11] ++ (knT (nI kk))) = (11 :: knT (nI kk)) from rfl)), rfl, rfl, rfl, rfl⟩)
set_option maxRecDepth 100000 in
set_option maxHeartbeats 1000000 in
theorem c_run_1_3 {g : Gl} {I : Ty} {L : TL} {na nt ni m : Nat} {nl : Nat → Nat} {rn : Nat} (xz : Int32) (dz : Nat) (hdz : dz ≤ 17) (hrn : rn + 22 ≤ 1000) (hre : I 18 0 = nI rn) (nu va : Int32) (hnu : I 18 1 = nu) (hva : I 18 3 = va) (kk : Nat) (hk7 : kk < 7) (hkk : I 18 2 = nI kk) : Ct g yX0_run cX0_run 8 (some .int) 3 0 0 [.ref (g.1 + 18), .int 1, .int 3, .int xz, .int (nI dz)] I L (RT na nt ni) (NT nl) (NB + m) (Ps (some (.int (knV (nI kk) nu va xz - va))) (ctr I rn (11 :: knT (nI kk))) L (RT na nt ni) (NT nl) (NB + m)) := by
  refine ct_of (by decide +kernel) (Nat.le_of_ble_eq_true rfl) (fun F hnm hr => ?_)
  clear hnm
  show V g F cX0_run RX0 8 3 0 [(0, .ref (g.1 + 18)), (1, .int 1), (2, .int 3), (3, .int xz), (4, .int (nI dz))] [] I L (RT na nt ni) (NT nl) (NB + m) 0 0
  refine v_bipush (v := 7) dX0_run_0 (by decide) ?_
  refine v_iload_n dX0_run_2 rfl 1 rfl ?_
  refine v_imul dX0_run_3 ?_
  refine v_is (y := 7) (by decide) ?_
  refine v_iload_n dX0_run_4 rfl 2 rfl ?_
  refine v_iadd dX0_run_5 ?_
  refine v_is (y := 10) (by decide) ?_
  refine v_istore (lv2 := [(5, .int 10), (0, .ref (g.1 + 18)), (1, .int 1), (2, .int 3), (3, .int xz), (4, .int (nI dz))]) dX0_run_6 (by decide) rfl ?_
  refine v_iload dX0_run_8 5 rfl ?_
  refine v_bipush (v := 20) dX0_run_10 (by decide) ?_
  refine v_icmp_gtN (a := dz) (b := 20) (tgt := 29) dX0_run_12 (by decide) rfl rfl (by omega) (by omega) (fun h => by exfalso; omega) (fun h1 => ?_)
  refine v_iload dX0_run_15 0 rfl ?_
  refine v_if_lt (tgt := 29) dX0_run_17 (by decide) (fun h2 => by first | exact absurd h2 (by decide) | exact absurd (by decide) h2) (fun _ => ?_)
  refine v_iload dX0_run_20 0 rfl ?_
  refine v_getSBODIES uf_X0_38 dX0_run_22 (fun tq3 htq3 => ?_)
  refine v_tlen htq3 dX0_run_25 ?_
  refine v_icmp_lt (tgt := 31) dX0_run_26 (by decide) (fun _ => ?_) (fun h4 => by first | exact absurd h4 (by decide) | exact absurd (by decide) h4)
  refine v_getSBODIES uf_X0_38 dX0_run_31 (fun tq5 htq5 => ?_)
  refine v_iload dX0_run_34 0 rfl ?_
  refine v_tiload (j := 10) htq5 dX0_run_36 rfl (by omega) (by decide) ?_
  refine v_is (y := 11) rfl ?_
  refine v_istore (lv2 := [(6, .int 11), (5, .int 10), (0, .ref (g.1 + 18)), (1, .int 1), (2, .int 3), (3, .int xz), (4, .int (nI dz))]) dX0_run_37 (by decide) rfl ?_
  refine v_aload_n dX0_run_39 rfl 2 rfl ?_
  refine v_iload dX0_run_40 0 rfl ?_
  refine v_callVv (As := [.int 11]) (rest := []) lk_X0_41 (c_X0_note 11 rn (by omega) hre) dX0_run_42 rfl (ltn rfl) rfl rfl (Nat.le_of_ble_eq_true rfl) (by decide) ?_
  refine v_I (I2 := (ctr I rn [11])) rfl ?_
  refine v_iload dX0_run_45 6 rfl ?_
  refine v_iconst (v := 1) dX0_run_47 (by decide) ?_
  refine v_iadd dX0_run_48 ?_
  refine v_is (nx_add rfl rfl) ?_
  refine v_istore (lv2 := [(7, .int (nI (dz + 1))), (6, .int 11), (5, .int 10), (0, .ref (g.1 + 18)), (1, .int 1), (2, .int 3), (3, .int xz), (4, .int (nI dz))]) dX0_run_49 (by decide) rfl ?_
  refine v_iload dX0_run_51 1 rfl ?_
  refine v_look (off := 106) (tgt := 159) dX0_run_53 (by decide) (by decide) (by decide) ?_
  refine v_aload_n dX0_run_159 rfl 3 rfl ?_
  refine v_iconst (v := 0) dX0_run_160 (by decide) ?_
  refine v_aload_n dX0_run_161 rfl 3 rfl ?_
  refine v_get (v := .int ((ctr I rn [11]) 18 2)) fa_X0_28 dX0_run_162 rfl (by decide) (ltn rfl) rfl ?_
  refine v_is (y := nI kk) (by exact (ctr_18 _ _ _ _ (by decide)).trans hkk) ?_
  refine v_iload_n dX0_run_165 rfl 6 rfl ?_
  refine v_iload dX0_run_166 0 rfl ?_
  refine v_callVi (As := [.int 0, .int (nI kk), .int xz, .int (nI (dz + 1))]) (rest := []) lk_X0_34 (c_run0 (I := (ctr I rn [11])) xz (dz + 1) (rn := rn + ([11] : List Int32).length) (by omega) (by have h1 := knT_len (nI kk); have h2 := drT_le5 (nI kk); simp only [List.length_cons, List.length_nil, List.length_append]; omega) (ctr_0 [11] I rn hre) nu va ((ctr_18 [11] I rn _ (by decide)).trans hnu) ((ctr_18 [11] I rn _ (by decide)).trans hva) kk hk7 ((ctr_18 [11] I rn _ (by decide)).trans hkk)) dX0_run_168 rfl (ltn rfl) rfl rfl (Nat.le_of_ble_eq_true rfl) (by decide) ?_
  refine v_I (I2 := (ctr I rn ([11] ++ (knT (nI kk))))) (ctr_app _ _ _ _) ?_
  refine v_aload_n dX0_run_171 rfl 3 rfl ?_
  refine v_get (v := .int ((ctr I rn ([11] ++ (knT (nI kk)))) 18 3)) fa_X0_31 dX0_run_172 rfl (by decide) (ltn rfl) rfl ?_
  refine v_is (y := va) (by exact (ctr_18 _ _ _ _ (by decide)).trans hva) ?_
  refine v_isub dX0_run_175 ?_
  exact v_iret hr dX0_run_176 (⟨congrArg (fun z => some (Value.int z)) rfl, (congrArg (ctr I rn) (show ([11] ++ (knT (nI kk))) = (11 :: knT (nI kk)) from rfl)), rfl, rfl, rfl, rfl⟩)
set_option maxRecDepth 100000 in
set_option maxHeartbeats 1000000 in
theorem c_run_1_1 {g : Gl} {I : Ty} {L : TL} {na nt ni m : Nat} {nl : Nat → Nat} {rn : Nat} (xz : Int32) (dz : Nat) (hdz : dz ≤ 16) (hrn : rn + 26 ≤ 1000) (hre : I 18 0 = nI rn) (nu va : Int32) (hnu : I 18 1 = nu) (hva : I 18 3 = va) (kk : Nat) (hk7 : kk < 7) (hkk : I 18 2 = nI kk) : Ct g yX0_run cX0_run 8 (some .int) 4 0 0 [.ref (g.1 + 18), .int 1, .int 1, .int xz, .int (nI dz)] I L (RT na nt ni) (NT nl) (NB + m) (Ps (some (.int ((knV (nI kk) nu va xz - va) ^^^ 6))) (ctr I rn (20 :: (11 :: knT (nI kk)))) L (RT na nt ni) (NT nl) (NB + m)) := by
  refine ct_of (by decide +kernel) (Nat.le_of_ble_eq_true rfl) (fun F hnm hr => ?_)
  clear hnm
  show V g F cX0_run RX0 8 4 0 [(0, .ref (g.1 + 18)), (1, .int 1), (2, .int 1), (3, .int xz), (4, .int (nI dz))] [] I L (RT na nt ni) (NT nl) (NB + m) 0 0
  refine v_bipush (v := 7) dX0_run_0 (by decide) ?_
  refine v_iload_n dX0_run_2 rfl 1 rfl ?_
  refine v_imul dX0_run_3 ?_
  refine v_is (y := 7) (by decide) ?_
  refine v_iload_n dX0_run_4 rfl 2 rfl ?_
  refine v_iadd dX0_run_5 ?_
  refine v_is (y := 8) (by decide) ?_
  refine v_istore (lv2 := [(5, .int 8), (0, .ref (g.1 + 18)), (1, .int 1), (2, .int 1), (3, .int xz), (4, .int (nI dz))]) dX0_run_6 (by decide) rfl ?_
  refine v_iload dX0_run_8 5 rfl ?_
  refine v_bipush (v := 20) dX0_run_10 (by decide) ?_
  refine v_icmp_gtN (a := dz) (b := 20) (tgt := 29) dX0_run_12 (by decide) rfl rfl (by omega) (by omega) (fun h => by exfalso; omega) (fun h1 => ?_)
  refine v_iload dX0_run_15 0 rfl ?_
  refine v_if_lt (tgt := 29) dX0_run_17 (by decide) (fun h2 => by first | exact absurd h2 (by decide) | exact absurd (by decide) h2) (fun _ => ?_)
  refine v_iload dX0_run_20 0 rfl ?_
  refine v_getSBODIES uf_X0_38 dX0_run_22 (fun tq3 htq3 => ?_)
  refine v_tlen htq3 dX0_run_25 ?_
  refine v_icmp_lt (tgt := 31) dX0_run_26 (by decide) (fun _ => ?_) (fun h4 => by first | exact absurd h4 (by decide) | exact absurd (by decide) h4)
  refine v_getSBODIES uf_X0_38 dX0_run_31 (fun tq5 htq5 => ?_)
  refine v_iload dX0_run_34 0 rfl ?_
  refine v_tiload (j := 8) htq5 dX0_run_36 rfl (by omega) (by decide) ?_
  refine v_is (y := 20) rfl ?_
  refine v_istore (lv2 := [(6, .int 20), (5, .int 8), (0, .ref (g.1 + 18)), (1, .int 1), (2, .int 1), (3, .int xz), (4, .int (nI dz))]) dX0_run_37 (by decide) rfl ?_
  refine v_aload_n dX0_run_39 rfl 2 rfl ?_
  refine v_iload dX0_run_40 0 rfl ?_
  refine v_callVv (As := [.int 20]) (rest := []) lk_X0_41 (c_X0_note 20 rn (by omega) hre) dX0_run_42 rfl (ltn rfl) rfl rfl (Nat.le_of_ble_eq_true rfl) (by decide) ?_
  refine v_I (I2 := (ctr I rn [20])) rfl ?_
  refine v_iload dX0_run_45 6 rfl ?_
  refine v_iconst (v := 1) dX0_run_47 (by decide) ?_
  refine v_iadd dX0_run_48 ?_
  refine v_is (nx_add rfl rfl) ?_
  refine v_istore (lv2 := [(7, .int (nI (dz + 1))), (6, .int 20), (5, .int 8), (0, .ref (g.1 + 18)), (1, .int 1), (2, .int 1), (3, .int xz), (4, .int (nI dz))]) dX0_run_49 (by decide) rfl ?_
  refine v_iload dX0_run_51 1 rfl ?_
  refine v_look (off := 139) (tgt := 192) dX0_run_53 (by decide) (by decide) (by decide) ?_
  refine v_aload_n dX0_run_192 rfl 3 rfl ?_
  refine v_iconst (v := 1) dX0_run_193 (by decide) ?_
  refine v_iconst (v := 0) dX0_run_194 (by decide) ?_
  refine v_iload_n dX0_run_195 rfl 6 rfl ?_
  refine v_iload dX0_run_196 0 rfl ?_
  refine v_callVi (As := [.int 1, .int 0, .int xz, .int (nI (dz + 1))]) (rest := []) lk_X0_34 (c_run_1_0 (I := (ctr I rn [20])) xz (dz + 1) (rn := rn + ([20] : List Int32).length) (by omega) (by have h1 := knT_len (nI kk); have h2 := drT_le5 (nI kk); simp only [List.length_cons, List.length_nil, List.length_append]; omega) (ctr_0 [20] I rn hre) nu va ((ctr_18 [20] I rn _ (by decide)).trans hnu) ((ctr_18 [20] I rn _ (by decide)).trans hva) kk hk7 ((ctr_18 [20] I rn _ (by decide)).trans hkk)) dX0_run_198 rfl (ltn rfl) rfl rfl (Nat.le_of_ble_eq_true rfl) (by decide) ?_
  refine v_I (I2 := (ctr I rn ([20] ++ (11 :: knT (nI kk))))) (ctr_app _ _ _ _) ?_
  refine v_bipush (v := 6) dX0_run_201 (by decide) ?_
  refine v_ixor dX0_run_203 ?_
  exact v_iret hr dX0_run_204 (⟨congrArg (fun z => some (Value.int z)) rfl, (congrArg (ctr I rn) (show ([20] ++ (11 :: knT (nI kk))) = (20 :: (11 :: knT (nI kk))) from rfl)), rfl, rfl, rfl, rfl⟩)
set_option maxRecDepth 100000 in
set_option maxHeartbeats 1000000 in
theorem c_run_1_0b {g : Gl} {I : Ty} {L : TL} {na nt ni m : Nat} {nl : Nat → Nat} {rn : Nat} (xz : Int32) (dz : Nat) (hdz : dz ≤ 14) (hrn : rn + 30 ≤ 1000) (hre : I 18 0 = nI rn) (nu va : Int32) (hnu : I 18 1 = nu) (hva : I 18 3 = va) (kk : Nat) (hk7 : kk < 7) (hkk : I 18 2 = nI kk) : Ct g yX0_run cX0_run 8 (some .int) 5 0 0 [.ref (g.1 + 18), .int 1, .int 0, .int xz, .int (nI dz)] I L (RT na nt ni) (NT nl) (NB + m) (Ps (some (.int (knV (nI kk) nu va xz - va))) (ctr I rn (11 :: knT (nI kk))) L (RT na nt ni) (NT nl) (NB + m)) := by
  refine ct_of (by decide +kernel) (Nat.le_of_ble_eq_true rfl) (fun F hnm hr => ?_)
  clear hnm
  show V g F cX0_run RX0 8 5 0 [(0, .ref (g.1 + 18)), (1, .int 1), (2, .int 0), (3, .int xz), (4, .int (nI dz))] [] I L (RT na nt ni) (NT nl) (NB + m) 0 0
  refine v_bipush (v := 7) dX0_run_0 (by decide) ?_
  refine v_iload_n dX0_run_2 rfl 1 rfl ?_
  refine v_imul dX0_run_3 ?_
  refine v_is (y := 7) (by decide) ?_
  refine v_iload_n dX0_run_4 rfl 2 rfl ?_
  refine v_iadd dX0_run_5 ?_
  refine v_is (y := 7) (by decide) ?_
  refine v_istore (lv2 := [(5, .int 7), (0, .ref (g.1 + 18)), (1, .int 1), (2, .int 0), (3, .int xz), (4, .int (nI dz))]) dX0_run_6 (by decide) rfl ?_
  refine v_iload dX0_run_8 5 rfl ?_
  refine v_bipush (v := 20) dX0_run_10 (by decide) ?_
  refine v_icmp_gtN (a := dz) (b := 20) (tgt := 29) dX0_run_12 (by decide) rfl rfl (by omega) (by omega) (fun h => by exfalso; omega) (fun h1 => ?_)
  refine v_iload dX0_run_15 0 rfl ?_
  refine v_if_lt (tgt := 29) dX0_run_17 (by decide) (fun h2 => by first | exact absurd h2 (by decide) | exact absurd (by decide) h2) (fun _ => ?_)
  refine v_iload dX0_run_20 0 rfl ?_
  refine v_getSBODIES uf_X0_38 dX0_run_22 (fun tq3 htq3 => ?_)
  refine v_tlen htq3 dX0_run_25 ?_
  refine v_icmp_lt (tgt := 31) dX0_run_26 (by decide) (fun _ => ?_) (fun h4 => by first | exact absurd h4 (by decide) | exact absurd (by decide) h4)
  refine v_getSBODIES uf_X0_38 dX0_run_31 (fun tq5 htq5 => ?_)
  refine v_iload dX0_run_34 0 rfl ?_
  refine v_tiload (j := 7) htq5 dX0_run_36 rfl (by omega) (by decide) ?_
  refine v_is (y := 11) rfl ?_
  refine v_istore (lv2 := [(6, .int 11), (5, .int 7), (0, .ref (g.1 + 18)), (1, .int 1), (2, .int 0), (3, .int xz), (4, .int (nI dz))]) dX0_run_37 (by decide) rfl ?_
  refine v_aload_n dX0_run_39 rfl 2 rfl ?_
  refine v_iload dX0_run_40 0 rfl ?_
  refine v_callVv (As := [.int 11]) (rest := []) lk_X0_41 (c_X0_note 11 rn (by omega) hre) dX0_run_42 rfl (ltn rfl) rfl rfl (Nat.le_of_ble_eq_true rfl) (by decide) ?_
  refine v_I (I2 := (ctr I rn [11])) rfl ?_
  refine v_iload dX0_run_45 6 rfl ?_
  refine v_iconst (v := 1) dX0_run_47 (by decide) ?_
  refine v_iadd dX0_run_48 ?_
  refine v_is (nx_add rfl rfl) ?_
  refine v_istore (lv2 := [(7, .int (nI (dz + 1))), (6, .int 11), (5, .int 7), (0, .ref (g.1 + 18)), (1, .int 1), (2, .int 0), (3, .int xz), (4, .int (nI dz))]) dX0_run_49 (by decide) rfl ?_
  refine v_iload dX0_run_51 1 rfl ?_
  refine v_look (off := 106) (tgt := 159) dX0_run_53 (by decide) (by decide) (by decide) ?_
  refine v_aload_n dX0_run_159 rfl 3 rfl ?_
  refine v_iconst (v := 0) dX0_run_160 (by decide) ?_
  refine v_aload_n dX0_run_161 rfl 3 rfl ?_
  refine v_get (v := .int ((ctr I rn [11]) 18 2)) fa_X0_28 dX0_run_162 rfl (by decide) (ltn rfl) rfl ?_
  refine v_is (y := nI kk) (by exact (ctr_18 _ _ _ _ (by decide)).trans hkk) ?_
  refine v_iload_n dX0_run_165 rfl 6 rfl ?_
  refine v_iload dX0_run_166 0 rfl ?_
  refine v_callVi (As := [.int 0, .int (nI kk), .int xz, .int (nI (dz + 1))]) (rest := []) lk_X0_34 (c_run0 (I := (ctr I rn [11])) xz (dz + 1) (rn := rn + ([11] : List Int32).length) (by omega) (by have h1 := knT_len (nI kk); have h2 := drT_le5 (nI kk); simp only [List.length_cons, List.length_nil, List.length_append]; omega) (ctr_0 [11] I rn hre) nu va ((ctr_18 [11] I rn _ (by decide)).trans hnu) ((ctr_18 [11] I rn _ (by decide)).trans hva) kk hk7 ((ctr_18 [11] I rn _ (by decide)).trans hkk)) dX0_run_168 rfl (ltn rfl) rfl rfl (Nat.le_of_ble_eq_true rfl) (by decide) ?_
  refine v_I (I2 := (ctr I rn ([11] ++ (knT (nI kk))))) (ctr_app _ _ _ _) ?_
  refine v_aload_n dX0_run_171 rfl 3 rfl ?_
  refine v_get (v := .int ((ctr I rn ([11] ++ (knT (nI kk)))) 18 3)) fa_X0_31 dX0_run_172 rfl (by decide) (ltn rfl) rfl ?_
  refine v_is (y := va) (by exact (ctr_18 _ _ _ _ (by decide)).trans hva) ?_
  refine v_isub dX0_run_175 ?_
  exact v_iret hr dX0_run_176 (⟨congrArg (fun z => some (Value.int z)) rfl, (congrArg (ctr I rn) (show ([11] ++ (knT (nI kk))) = (11 :: knT (nI kk)) from rfl)), rfl, rfl, rfl, rfl⟩)
set_option maxRecDepth 100000 in
set_option maxHeartbeats 1000000 in
theorem c_run_1_1b {g : Gl} {I : Ty} {L : TL} {na nt ni m : Nat} {nl : Nat → Nat} {rn : Nat} (xz : Int32) (dz : Nat) (hdz : dz ≤ 14) (hrn : rn + 30 ≤ 1000) (hre : I 18 0 = nI rn) (nu va : Int32) (hnu : I 18 1 = nu) (hva : I 18 3 = va) (kk : Nat) (hk7 : kk < 7) (hkk : I 18 2 = nI kk) : Ct g yX0_run cX0_run 8 (some .int) 5 0 0 [.ref (g.1 + 18), .int 1, .int 1, .int xz, .int (nI dz)] I L (RT na nt ni) (NT nl) (NB + m) (Ps (some (.int ((knV (nI kk) nu va xz - va) ^^^ 6))) (ctr I rn (20 :: (11 :: knT (nI kk)))) L (RT na nt ni) (NT nl) (NB + m)) := by
  refine ct_of (by decide +kernel) (Nat.le_of_ble_eq_true rfl) (fun F hnm hr => ?_)
  clear hnm
  show V g F cX0_run RX0 8 5 0 [(0, .ref (g.1 + 18)), (1, .int 1), (2, .int 1), (3, .int xz), (4, .int (nI dz))] [] I L (RT na nt ni) (NT nl) (NB + m) 0 0
  refine v_bipush (v := 7) dX0_run_0 (by decide) ?_
  refine v_iload_n dX0_run_2 rfl 1 rfl ?_
  refine v_imul dX0_run_3 ?_
  refine v_is (y := 7) (by decide) ?_
  refine v_iload_n dX0_run_4 rfl 2 rfl ?_
  refine v_iadd dX0_run_5 ?_
  refine v_is (y := 8) (by decide) ?_
  refine v_istore (lv2 := [(5, .int 8), (0, .ref (g.1 + 18)), (1, .int 1), (2, .int 1), (3, .int xz), (4, .int (nI dz))]) dX0_run_6 (by decide) rfl ?_
  refine v_iload dX0_run_8 5 rfl ?_
  refine v_bipush (v := 20) dX0_run_10 (by decide) ?_
  refine v_icmp_gtN (a := dz) (b := 20) (tgt := 29) dX0_run_12 (by decide) rfl rfl (by omega) (by omega) (fun h => by exfalso; omega) (fun h1 => ?_)
  refine v_iload dX0_run_15 0 rfl ?_
  refine v_if_lt (tgt := 29) dX0_run_17 (by decide) (fun h2 => by first | exact absurd h2 (by decide) | exact absurd (by decide) h2) (fun _ => ?_)
  refine v_iload dX0_run_20 0 rfl ?_
  refine v_getSBODIES uf_X0_38 dX0_run_22 (fun tq3 htq3 => ?_)
  refine v_tlen htq3 dX0_run_25 ?_
  refine v_icmp_lt (tgt := 31) dX0_run_26 (by decide) (fun _ => ?_) (fun h4 => by first | exact absurd h4 (by decide) | exact absurd (by decide) h4)
  refine v_getSBODIES uf_X0_38 dX0_run_31 (fun tq5 htq5 => ?_)
  refine v_iload dX0_run_34 0 rfl ?_
  refine v_tiload (j := 8) htq5 dX0_run_36 rfl (by omega) (by decide) ?_
  refine v_is (y := 20) rfl ?_
  refine v_istore (lv2 := [(6, .int 20), (5, .int 8), (0, .ref (g.1 + 18)), (1, .int 1), (2, .int 1), (3, .int xz), (4, .int (nI dz))]) dX0_run_37 (by decide) rfl ?_
  refine v_aload_n dX0_run_39 rfl 2 rfl ?_
  refine v_iload dX0_run_40 0 rfl ?_
  refine v_callVv (As := [.int 20]) (rest := []) lk_X0_41 (c_X0_note 20 rn (by omega) hre) dX0_run_42 rfl (ltn rfl) rfl rfl (Nat.le_of_ble_eq_true rfl) (by decide) ?_
  refine v_I (I2 := (ctr I rn [20])) rfl ?_
  refine v_iload dX0_run_45 6 rfl ?_
  refine v_iconst (v := 1) dX0_run_47 (by decide) ?_
  refine v_iadd dX0_run_48 ?_
  refine v_is (nx_add rfl rfl) ?_
  refine v_istore (lv2 := [(7, .int (nI (dz + 1))), (6, .int 20), (5, .int 8), (0, .ref (g.1 + 18)), (1, .int 1), (2, .int 1), (3, .int xz), (4, .int (nI dz))]) dX0_run_49 (by decide) rfl ?_
  refine v_iload dX0_run_51 1 rfl ?_
  refine v_look (off := 139) (tgt := 192) dX0_run_53 (by decide) (by decide) (by decide) ?_
  refine v_aload_n dX0_run_192 rfl 3 rfl ?_
  refine v_iconst (v := 1) dX0_run_193 (by decide) ?_
  refine v_iconst (v := 0) dX0_run_194 (by decide) ?_
  refine v_iload_n dX0_run_195 rfl 6 rfl ?_
  refine v_iload dX0_run_196 0 rfl ?_
  refine v_callVi (As := [.int 1, .int 0, .int xz, .int (nI (dz + 1))]) (rest := []) lk_X0_34 (c_run_1_0 (I := (ctr I rn [20])) xz (dz + 1) (rn := rn + ([20] : List Int32).length) (by omega) (by have h1 := knT_len (nI kk); have h2 := drT_le5 (nI kk); simp only [List.length_cons, List.length_nil, List.length_append]; omega) (ctr_0 [20] I rn hre) nu va ((ctr_18 [20] I rn _ (by decide)).trans hnu) ((ctr_18 [20] I rn _ (by decide)).trans hva) kk hk7 ((ctr_18 [20] I rn _ (by decide)).trans hkk)) dX0_run_198 rfl (ltn rfl) rfl rfl (Nat.le_of_ble_eq_true rfl) (by decide) ?_
  refine v_I (I2 := (ctr I rn ([20] ++ (11 :: knT (nI kk))))) (ctr_app _ _ _ _) ?_
  refine v_bipush (v := 6) dX0_run_201 (by decide) ?_
  refine v_ixor dX0_run_203 ?_
  exact v_iret hr dX0_run_204 (⟨congrArg (fun z => some (Value.int z)) rfl, (congrArg (ctr I rn) (show ([20] ++ (11 :: knT (nI kk))) = (20 :: (11 :: knT (nI kk))) from rfl)), rfl, rfl, rfl, rfl⟩)
set_option maxRecDepth 100000 in
set_option maxHeartbeats 1000000 in
theorem c_run_1_2b {g : Gl} {I : Ty} {L : TL} {na nt ni m : Nat} {nl : Nat → Nat} {rn : Nat} (xz : Int32) (dz : Nat) (hdz : dz ≤ 14) (hrn : rn + 30 ≤ 1000) (hre : I 18 0 = nI rn) (nu va : Int32) (hnu : I 18 1 = nu) (hva : I 18 3 = va) (kk : Nat) (hk7 : kk < 7) (hkk : I 18 2 = nI kk) : Ct g yX0_run cX0_run 8 (some .int) 5 0 0 [.ref (g.1 + 18), .int 1, .int 2, .int xz, .int (nI dz)] I L (RT na nt ni) (NT nl) (NB + m) (Ps (some (.int (knV (nI kk) nu va xz - va))) (ctr I rn (11 :: knT (nI kk))) L (RT na nt ni) (NT nl) (NB + m)) := by
  refine ct_of (by decide +kernel) (Nat.le_of_ble_eq_true rfl) (fun F hnm hr => ?_)
  clear hnm
  show V g F cX0_run RX0 8 5 0 [(0, .ref (g.1 + 18)), (1, .int 1), (2, .int 2), (3, .int xz), (4, .int (nI dz))] [] I L (RT na nt ni) (NT nl) (NB + m) 0 0
  refine v_bipush (v := 7) dX0_run_0 (by decide) ?_
  refine v_iload_n dX0_run_2 rfl 1 rfl ?_
  refine v_imul dX0_run_3 ?_
  refine v_is (y := 7) (by decide) ?_
  refine v_iload_n dX0_run_4 rfl 2 rfl ?_
  refine v_iadd dX0_run_5 ?_
  refine v_is (y := 9) (by decide) ?_
  refine v_istore (lv2 := [(5, .int 9), (0, .ref (g.1 + 18)), (1, .int 1), (2, .int 2), (3, .int xz), (4, .int (nI dz))]) dX0_run_6 (by decide) rfl ?_
  refine v_iload dX0_run_8 5 rfl ?_
  refine v_bipush (v := 20) dX0_run_10 (by decide) ?_
  refine v_icmp_gtN (a := dz) (b := 20) (tgt := 29) dX0_run_12 (by decide) rfl rfl (by omega) (by omega) (fun h => by exfalso; omega) (fun h1 => ?_)
  refine v_iload dX0_run_15 0 rfl ?_
  refine v_if_lt (tgt := 29) dX0_run_17 (by decide) (fun h2 => by first | exact absurd h2 (by decide) | exact absurd (by decide) h2) (fun _ => ?_)
  refine v_iload dX0_run_20 0 rfl ?_
  refine v_getSBODIES uf_X0_38 dX0_run_22 (fun tq3 htq3 => ?_)
  refine v_tlen htq3 dX0_run_25 ?_
  refine v_icmp_lt (tgt := 31) dX0_run_26 (by decide) (fun _ => ?_) (fun h4 => by first | exact absurd h4 (by decide) | exact absurd (by decide) h4)
  refine v_getSBODIES uf_X0_38 dX0_run_31 (fun tq5 htq5 => ?_)
  refine v_iload dX0_run_34 0 rfl ?_
  refine v_tiload (j := 9) htq5 dX0_run_36 rfl (by omega) (by decide) ?_
  refine v_is (y := 11) rfl ?_
  refine v_istore (lv2 := [(6, .int 11), (5, .int 9), (0, .ref (g.1 + 18)), (1, .int 1), (2, .int 2), (3, .int xz), (4, .int (nI dz))]) dX0_run_37 (by decide) rfl ?_
  refine v_aload_n dX0_run_39 rfl 2 rfl ?_
  refine v_iload dX0_run_40 0 rfl ?_
  refine v_callVv (As := [.int 11]) (rest := []) lk_X0_41 (c_X0_note 11 rn (by omega) hre) dX0_run_42 rfl (ltn rfl) rfl rfl (Nat.le_of_ble_eq_true rfl) (by decide) ?_
  refine v_I (I2 := (ctr I rn [11])) rfl ?_
  refine v_iload dX0_run_45 6 rfl ?_
  refine v_iconst (v := 1) dX0_run_47 (by decide) ?_
  refine v_iadd dX0_run_48 ?_
  refine v_is (nx_add rfl rfl) ?_
  refine v_istore (lv2 := [(7, .int (nI (dz + 1))), (6, .int 11), (5, .int 9), (0, .ref (g.1 + 18)), (1, .int 1), (2, .int 2), (3, .int xz), (4, .int (nI dz))]) dX0_run_49 (by decide) rfl ?_
  refine v_iload dX0_run_51 1 rfl ?_
  refine v_look (off := 106) (tgt := 159) dX0_run_53 (by decide) (by decide) (by decide) ?_
  refine v_aload_n dX0_run_159 rfl 3 rfl ?_
  refine v_iconst (v := 0) dX0_run_160 (by decide) ?_
  refine v_aload_n dX0_run_161 rfl 3 rfl ?_
  refine v_get (v := .int ((ctr I rn [11]) 18 2)) fa_X0_28 dX0_run_162 rfl (by decide) (ltn rfl) rfl ?_
  refine v_is (y := nI kk) (by exact (ctr_18 _ _ _ _ (by decide)).trans hkk) ?_
  refine v_iload_n dX0_run_165 rfl 6 rfl ?_
  refine v_iload dX0_run_166 0 rfl ?_
  refine v_callVi (As := [.int 0, .int (nI kk), .int xz, .int (nI (dz + 1))]) (rest := []) lk_X0_34 (c_run0 (I := (ctr I rn [11])) xz (dz + 1) (rn := rn + ([11] : List Int32).length) (by omega) (by have h1 := knT_len (nI kk); have h2 := drT_le5 (nI kk); simp only [List.length_cons, List.length_nil, List.length_append]; omega) (ctr_0 [11] I rn hre) nu va ((ctr_18 [11] I rn _ (by decide)).trans hnu) ((ctr_18 [11] I rn _ (by decide)).trans hva) kk hk7 ((ctr_18 [11] I rn _ (by decide)).trans hkk)) dX0_run_168 rfl (ltn rfl) rfl rfl (Nat.le_of_ble_eq_true rfl) (by decide) ?_
  refine v_I (I2 := (ctr I rn ([11] ++ (knT (nI kk))))) (ctr_app _ _ _ _) ?_
  refine v_aload_n dX0_run_171 rfl 3 rfl ?_
  refine v_get (v := .int ((ctr I rn ([11] ++ (knT (nI kk)))) 18 3)) fa_X0_31 dX0_run_172 rfl (by decide) (ltn rfl) rfl ?_
  refine v_is (y := va) (by exact (ctr_18 _ _ _ _ (by decide)).trans hva) ?_
  refine v_isub dX0_run_175 ?_
  exact v_iret hr dX0_run_176 (⟨congrArg (fun z => some (Value.int z)) rfl, (congrArg (ctr I rn) (show ([11] ++ (knT (nI kk))) = (11 :: knT (nI kk)) from rfl)), rfl, rfl, rfl, rfl⟩)
set_option maxRecDepth 100000 in
set_option maxHeartbeats 1000000 in
theorem c_run_1_3b {g : Gl} {I : Ty} {L : TL} {na nt ni m : Nat} {nl : Nat → Nat} {rn : Nat} (xz : Int32) (dz : Nat) (hdz : dz ≤ 14) (hrn : rn + 30 ≤ 1000) (hre : I 18 0 = nI rn) (nu va : Int32) (hnu : I 18 1 = nu) (hva : I 18 3 = va) (kk : Nat) (hk7 : kk < 7) (hkk : I 18 2 = nI kk) : Ct g yX0_run cX0_run 8 (some .int) 5 0 0 [.ref (g.1 + 18), .int 1, .int 3, .int xz, .int (nI dz)] I L (RT na nt ni) (NT nl) (NB + m) (Ps (some (.int (knV (nI kk) nu va xz - va))) (ctr I rn (11 :: knT (nI kk))) L (RT na nt ni) (NT nl) (NB + m)) := by
  refine ct_of (by decide +kernel) (Nat.le_of_ble_eq_true rfl) (fun F hnm hr => ?_)
  clear hnm
  show V g F cX0_run RX0 8 5 0 [(0, .ref (g.1 + 18)), (1, .int 1), (2, .int 3), (3, .int xz), (4, .int (nI dz))] [] I L (RT na nt ni) (NT nl) (NB + m) 0 0
  refine v_bipush (v := 7) dX0_run_0 (by decide) ?_
  refine v_iload_n dX0_run_2 rfl 1 rfl ?_
  refine v_imul dX0_run_3 ?_
  refine v_is (y := 7) (by decide) ?_
  refine v_iload_n dX0_run_4 rfl 2 rfl ?_
  refine v_iadd dX0_run_5 ?_
  refine v_is (y := 10) (by decide) ?_
  refine v_istore (lv2 := [(5, .int 10), (0, .ref (g.1 + 18)), (1, .int 1), (2, .int 3), (3, .int xz), (4, .int (nI dz))]) dX0_run_6 (by decide) rfl ?_
  refine v_iload dX0_run_8 5 rfl ?_
  refine v_bipush (v := 20) dX0_run_10 (by decide) ?_
  refine v_icmp_gtN (a := dz) (b := 20) (tgt := 29) dX0_run_12 (by decide) rfl rfl (by omega) (by omega) (fun h => by exfalso; omega) (fun h1 => ?_)
  refine v_iload dX0_run_15 0 rfl ?_
  refine v_if_lt (tgt := 29) dX0_run_17 (by decide) (fun h2 => by first | exact absurd h2 (by decide) | exact absurd (by decide) h2) (fun _ => ?_)
  refine v_iload dX0_run_20 0 rfl ?_
  refine v_getSBODIES uf_X0_38 dX0_run_22 (fun tq3 htq3 => ?_)
  refine v_tlen htq3 dX0_run_25 ?_
  refine v_icmp_lt (tgt := 31) dX0_run_26 (by decide) (fun _ => ?_) (fun h4 => by first | exact absurd h4 (by decide) | exact absurd (by decide) h4)
  refine v_getSBODIES uf_X0_38 dX0_run_31 (fun tq5 htq5 => ?_)
  refine v_iload dX0_run_34 0 rfl ?_
  refine v_tiload (j := 10) htq5 dX0_run_36 rfl (by omega) (by decide) ?_
  refine v_is (y := 11) rfl ?_
  refine v_istore (lv2 := [(6, .int 11), (5, .int 10), (0, .ref (g.1 + 18)), (1, .int 1), (2, .int 3), (3, .int xz), (4, .int (nI dz))]) dX0_run_37 (by decide) rfl ?_
  refine v_aload_n dX0_run_39 rfl 2 rfl ?_
  refine v_iload dX0_run_40 0 rfl ?_
  refine v_callVv (As := [.int 11]) (rest := []) lk_X0_41 (c_X0_note 11 rn (by omega) hre) dX0_run_42 rfl (ltn rfl) rfl rfl (Nat.le_of_ble_eq_true rfl) (by decide) ?_
  refine v_I (I2 := (ctr I rn [11])) rfl ?_
  refine v_iload dX0_run_45 6 rfl ?_
  refine v_iconst (v := 1) dX0_run_47 (by decide) ?_
  refine v_iadd dX0_run_48 ?_
  refine v_is (nx_add rfl rfl) ?_
  refine v_istore (lv2 := [(7, .int (nI (dz + 1))), (6, .int 11), (5, .int 10), (0, .ref (g.1 + 18)), (1, .int 1), (2, .int 3), (3, .int xz), (4, .int (nI dz))]) dX0_run_49 (by decide) rfl ?_
  refine v_iload dX0_run_51 1 rfl ?_
  refine v_look (off := 106) (tgt := 159) dX0_run_53 (by decide) (by decide) (by decide) ?_
  refine v_aload_n dX0_run_159 rfl 3 rfl ?_
  refine v_iconst (v := 0) dX0_run_160 (by decide) ?_
  refine v_aload_n dX0_run_161 rfl 3 rfl ?_
  refine v_get (v := .int ((ctr I rn [11]) 18 2)) fa_X0_28 dX0_run_162 rfl (by decide) (ltn rfl) rfl ?_
  refine v_is (y := nI kk) (by exact (ctr_18 _ _ _ _ (by decide)).trans hkk) ?_
  refine v_iload_n dX0_run_165 rfl 6 rfl ?_
  refine v_iload dX0_run_166 0 rfl ?_
  refine v_callVi (As := [.int 0, .int (nI kk), .int xz, .int (nI (dz + 1))]) (rest := []) lk_X0_34 (c_run0 (I := (ctr I rn [11])) xz (dz + 1) (rn := rn + ([11] : List Int32).length) (by omega) (by have h1 := knT_len (nI kk); have h2 := drT_le5 (nI kk); simp only [List.length_cons, List.length_nil, List.length_append]; omega) (ctr_0 [11] I rn hre) nu va ((ctr_18 [11] I rn _ (by decide)).trans hnu) ((ctr_18 [11] I rn _ (by decide)).trans hva) kk hk7 ((ctr_18 [11] I rn _ (by decide)).trans hkk)) dX0_run_168 rfl (ltn rfl) rfl rfl (Nat.le_of_ble_eq_true rfl) (by decide) ?_
  refine v_I (I2 := (ctr I rn ([11] ++ (knT (nI kk))))) (ctr_app _ _ _ _) ?_
  refine v_aload_n dX0_run_171 rfl 3 rfl ?_
  refine v_get (v := .int ((ctr I rn ([11] ++ (knT (nI kk)))) 18 3)) fa_X0_31 dX0_run_172 rfl (by decide) (ltn rfl) rfl ?_
  refine v_is (y := va) (by exact (ctr_18 _ _ _ _ (by decide)).trans hva) ?_
  refine v_isub dX0_run_175 ?_
  exact v_iret hr dX0_run_176 (⟨congrArg (fun z => some (Value.int z)) rfl, (congrArg (ctr I rn) (show ([11] ++ (knT (nI kk))) = (11 :: knT (nI kk)) from rfl)), rfl, rfl, rfl, rfl⟩)
set_option maxRecDepth 100000 in
set_option maxHeartbeats 1000000 in
theorem c_run_1_4b {g : Gl} {I : Ty} {L : TL} {na nt ni m : Nat} {nl : Nat → Nat} {rn : Nat} (xz : Int32) (dz : Nat) (hdz : dz ≤ 14) (hrn : rn + 30 ≤ 1000) (hre : I 18 0 = nI rn) (nu va : Int32) (hnu : I 18 1 = nu) (hva : I 18 3 = va) (kk : Nat) (hk7 : kk < 7) (hkk : I 18 2 = nI kk) : Ct g yX0_run cX0_run 8 (some .int) 5 0 0 [.ref (g.1 + 18), .int 1, .int 4, .int xz, .int (nI dz)] I L (RT na nt ni) (NT nl) (NB + m) (Ps (some (.int ((knV (nI kk) nu va (xz + 1) - va) ^^^ 6))) (ctr I rn (51 :: 20 :: (11 :: knT (nI kk)))) L (RT na nt ni) (NT nl) (NB + m)) := by
  refine ct_of (by decide +kernel) (Nat.le_of_ble_eq_true rfl) (fun F hnm hr => ?_)
  clear hnm
  show V g F cX0_run RX0 8 5 0 [(0, .ref (g.1 + 18)), (1, .int 1), (2, .int 4), (3, .int xz), (4, .int (nI dz))] [] I L (RT na nt ni) (NT nl) (NB + m) 0 0
  refine v_bipush (v := 7) dX0_run_0 (by decide) ?_
  refine v_iload_n dX0_run_2 rfl 1 rfl ?_
  refine v_imul dX0_run_3 ?_
  refine v_is (y := 7) (by decide) ?_
  refine v_iload_n dX0_run_4 rfl 2 rfl ?_
  refine v_iadd dX0_run_5 ?_
  refine v_is (y := 11) (by decide) ?_
  refine v_istore (lv2 := [(5, .int 11), (0, .ref (g.1 + 18)), (1, .int 1), (2, .int 4), (3, .int xz), (4, .int (nI dz))]) dX0_run_6 (by decide) rfl ?_
  refine v_iload dX0_run_8 5 rfl ?_
  refine v_bipush (v := 20) dX0_run_10 (by decide) ?_
  refine v_icmp_gtN (a := dz) (b := 20) (tgt := 29) dX0_run_12 (by decide) rfl rfl (by omega) (by omega) (fun h => by exfalso; omega) (fun h1 => ?_)
  refine v_iload dX0_run_15 0 rfl ?_
  refine v_if_lt (tgt := 29) dX0_run_17 (by decide) (fun h2 => by first | exact absurd h2 (by decide) | exact absurd (by decide) h2) (fun _ => ?_)
  refine v_iload dX0_run_20 0 rfl ?_
  refine v_getSBODIES uf_X0_38 dX0_run_22 (fun tq3 htq3 => ?_)
  refine v_tlen htq3 dX0_run_25 ?_
  refine v_icmp_lt (tgt := 31) dX0_run_26 (by decide) (fun _ => ?_) (fun h4 => by first | exact absurd h4 (by decide) | exact absurd (by decide) h4)
  refine v_getSBODIES uf_X0_38 dX0_run_31 (fun tq5 htq5 => ?_)
  refine v_iload dX0_run_34 0 rfl ?_
  refine v_tiload (j := 11) htq5 dX0_run_36 rfl (by omega) (by decide) ?_
  refine v_is (y := 51) rfl ?_
  refine v_istore (lv2 := [(6, .int 51), (5, .int 11), (0, .ref (g.1 + 18)), (1, .int 1), (2, .int 4), (3, .int xz), (4, .int (nI dz))]) dX0_run_37 (by decide) rfl ?_
  refine v_aload_n dX0_run_39 rfl 2 rfl ?_
  refine v_iload dX0_run_40 0 rfl ?_
  refine v_callVv (As := [.int 51]) (rest := []) lk_X0_41 (c_X0_note 51 rn (by omega) hre) dX0_run_42 rfl (ltn rfl) rfl rfl (Nat.le_of_ble_eq_true rfl) (by decide) ?_
  refine v_I (I2 := (ctr I rn [51])) rfl ?_
  refine v_iload dX0_run_45 6 rfl ?_
  refine v_iconst (v := 1) dX0_run_47 (by decide) ?_
  refine v_iadd dX0_run_48 ?_
  refine v_is (nx_add rfl rfl) ?_
  refine v_istore (lv2 := [(7, .int (nI (dz + 1))), (6, .int 51), (5, .int 11), (0, .ref (g.1 + 18)), (1, .int 1), (2, .int 4), (3, .int xz), (4, .int (nI dz))]) dX0_run_49 (by decide) rfl ?_
  refine v_iload dX0_run_51 1 rfl ?_
  refine v_look (off := 198) (tgt := 251) dX0_run_53 (by decide) (by decide) (by decide) ?_
  refine v_aload_n dX0_run_251 rfl 3 rfl ?_
  refine v_iconst (v := 1) dX0_run_252 (by decide) ?_
  refine v_iconst (v := 1) dX0_run_253 (by decide) ?_
  refine v_iload_n dX0_run_254 rfl 6 rfl ?_
  refine v_iconst (v := 1) dX0_run_255 (by decide) ?_
  refine v_iadd dX0_run_256 ?_
  refine v_iload dX0_run_257 0 rfl ?_
  refine v_callVi (As := [.int 1, .int 1, .int (xz + 1), .int (nI (dz + 1))]) (rest := []) lk_X0_34 (c_run_1_1 (I := (ctr I rn [51])) (xz + 1) (dz + 1) (rn := rn + ([51] : List Int32).length) (by omega) (by have h1 := knT_len (nI kk); have h2 := drT_le5 (nI kk); simp only [List.length_cons, List.length_nil, List.length_append]; omega) (ctr_0 [51] I rn hre) nu va ((ctr_18 [51] I rn _ (by decide)).trans hnu) ((ctr_18 [51] I rn _ (by decide)).trans hva) kk hk7 ((ctr_18 [51] I rn _ (by decide)).trans hkk)) dX0_run_259 rfl (ltn rfl) rfl rfl (Nat.le_of_ble_eq_true rfl) (by decide) ?_
  refine v_I (I2 := (ctr I rn ([51] ++ (20 :: (11 :: knT (nI kk)))))) (ctr_app _ _ _ _) ?_
  exact v_iret hr dX0_run_262 (⟨congrArg (fun z => some (Value.int z)) rfl, (congrArg (ctr I rn) (show ([51] ++ (20 :: (11 :: knT (nI kk)))) = (51 :: 20 :: (11 :: knT (nI kk))) from rfl)), rfl, rfl, rfl, rfl⟩)
set_option maxRecDepth 100000 in
set_option maxHeartbeats 1000000 in
theorem c_run_1_5b {g : Gl} {I : Ty} {L : TL} {na nt ni m : Nat} {nl : Nat → Nat} {rn : Nat} (xz : Int32) (dz : Nat) (hdz : dz ≤ 14) (hrn : rn + 30 ≤ 1000) (hre : I 18 0 = nI rn) (nu va : Int32) (hnu : I 18 1 = nu) (hva : I 18 3 = va) (kk : Nat) (hk7 : kk < 7) (hkk : I 18 2 = nI kk) : Ct g yX0_run cX0_run 8 (some .int) 5 0 0 [.ref (g.1 + 18), .int 1, .int 5, .int xz, .int (nI dz)] I L (RT na nt ni) (NT nl) (NB + m) (Ps (some (.int (knV (nI kk) nu va xz - va))) (ctr I rn (11 :: knT (nI kk))) L (RT na nt ni) (NT nl) (NB + m)) := by
  refine ct_of (by decide +kernel) (Nat.le_of_ble_eq_true rfl) (fun F hnm hr => ?_)
  clear hnm
  show V g F cX0_run RX0 8 5 0 [(0, .ref (g.1 + 18)), (1, .int 1), (2, .int 5), (3, .int xz), (4, .int (nI dz))] [] I L (RT na nt ni) (NT nl) (NB + m) 0 0
  refine v_bipush (v := 7) dX0_run_0 (by decide) ?_
  refine v_iload_n dX0_run_2 rfl 1 rfl ?_
  refine v_imul dX0_run_3 ?_
  refine v_is (y := 7) (by decide) ?_
  refine v_iload_n dX0_run_4 rfl 2 rfl ?_
  refine v_iadd dX0_run_5 ?_
  refine v_is (y := 12) (by decide) ?_
  refine v_istore (lv2 := [(5, .int 12), (0, .ref (g.1 + 18)), (1, .int 1), (2, .int 5), (3, .int xz), (4, .int (nI dz))]) dX0_run_6 (by decide) rfl ?_
  refine v_iload dX0_run_8 5 rfl ?_
  refine v_bipush (v := 20) dX0_run_10 (by decide) ?_
  refine v_icmp_gtN (a := dz) (b := 20) (tgt := 29) dX0_run_12 (by decide) rfl rfl (by omega) (by omega) (fun h => by exfalso; omega) (fun h1 => ?_)
  refine v_iload dX0_run_15 0 rfl ?_
  refine v_if_lt (tgt := 29) dX0_run_17 (by decide) (fun h2 => by first | exact absurd h2 (by decide) | exact absurd (by decide) h2) (fun _ => ?_)
  refine v_iload dX0_run_20 0 rfl ?_
  refine v_getSBODIES uf_X0_38 dX0_run_22 (fun tq3 htq3 => ?_)
  refine v_tlen htq3 dX0_run_25 ?_
  refine v_icmp_lt (tgt := 31) dX0_run_26 (by decide) (fun _ => ?_) (fun h4 => by first | exact absurd h4 (by decide) | exact absurd (by decide) h4)
  refine v_getSBODIES uf_X0_38 dX0_run_31 (fun tq5 htq5 => ?_)
  refine v_iload dX0_run_34 0 rfl ?_
  refine v_tiload (j := 12) htq5 dX0_run_36 rfl (by omega) (by decide) ?_
  refine v_is (y := 11) rfl ?_
  refine v_istore (lv2 := [(6, .int 11), (5, .int 12), (0, .ref (g.1 + 18)), (1, .int 1), (2, .int 5), (3, .int xz), (4, .int (nI dz))]) dX0_run_37 (by decide) rfl ?_
  refine v_aload_n dX0_run_39 rfl 2 rfl ?_
  refine v_iload dX0_run_40 0 rfl ?_
  refine v_callVv (As := [.int 11]) (rest := []) lk_X0_41 (c_X0_note 11 rn (by omega) hre) dX0_run_42 rfl (ltn rfl) rfl rfl (Nat.le_of_ble_eq_true rfl) (by decide) ?_
  refine v_I (I2 := (ctr I rn [11])) rfl ?_
  refine v_iload dX0_run_45 6 rfl ?_
  refine v_iconst (v := 1) dX0_run_47 (by decide) ?_
  refine v_iadd dX0_run_48 ?_
  refine v_is (nx_add rfl rfl) ?_
  refine v_istore (lv2 := [(7, .int (nI (dz + 1))), (6, .int 11), (5, .int 12), (0, .ref (g.1 + 18)), (1, .int 1), (2, .int 5), (3, .int xz), (4, .int (nI dz))]) dX0_run_49 (by decide) rfl ?_
  refine v_iload dX0_run_51 1 rfl ?_
  refine v_look (off := 106) (tgt := 159) dX0_run_53 (by decide) (by decide) (by decide) ?_
  refine v_aload_n dX0_run_159 rfl 3 rfl ?_
  refine v_iconst (v := 0) dX0_run_160 (by decide) ?_
  refine v_aload_n dX0_run_161 rfl 3 rfl ?_
  refine v_get (v := .int ((ctr I rn [11]) 18 2)) fa_X0_28 dX0_run_162 rfl (by decide) (ltn rfl) rfl ?_
  refine v_is (y := nI kk) (by exact (ctr_18 _ _ _ _ (by decide)).trans hkk) ?_
  refine v_iload_n dX0_run_165 rfl 6 rfl ?_
  refine v_iload dX0_run_166 0 rfl ?_
  refine v_callVi (As := [.int 0, .int (nI kk), .int xz, .int (nI (dz + 1))]) (rest := []) lk_X0_34 (c_run0 (I := (ctr I rn [11])) xz (dz + 1) (rn := rn + ([11] : List Int32).length) (by omega) (by have h1 := knT_len (nI kk); have h2 := drT_le5 (nI kk); simp only [List.length_cons, List.length_nil, List.length_append]; omega) (ctr_0 [11] I rn hre) nu va ((ctr_18 [11] I rn _ (by decide)).trans hnu) ((ctr_18 [11] I rn _ (by decide)).trans hva) kk hk7 ((ctr_18 [11] I rn _ (by decide)).trans hkk)) dX0_run_168 rfl (ltn rfl) rfl rfl (Nat.le_of_ble_eq_true rfl) (by decide) ?_
  refine v_I (I2 := (ctr I rn ([11] ++ (knT (nI kk))))) (ctr_app _ _ _ _) ?_
  refine v_aload_n dX0_run_171 rfl 3 rfl ?_
  refine v_get (v := .int ((ctr I rn ([11] ++ (knT (nI kk)))) 18 3)) fa_X0_31 dX0_run_172 rfl (by decide) (ltn rfl) rfl ?_
  refine v_is (y := va) (by exact (ctr_18 _ _ _ _ (by decide)).trans hva) ?_
  refine v_isub dX0_run_175 ?_
  exact v_iret hr dX0_run_176 (⟨congrArg (fun z => some (Value.int z)) rfl, (congrArg (ctr I rn) (show ([11] ++ (knT (nI kk))) = (11 :: knT (nI kk)) from rfl)), rfl, rfl, rfl, rfl⟩)
set_option maxRecDepth 100000 in
set_option maxHeartbeats 1000000 in
theorem c_run_1_6b {g : Gl} {I : Ty} {L : TL} {na nt ni m : Nat} {nl : Nat → Nat} {rn : Nat} (xz : Int32) (dz : Nat) (hdz : dz ≤ 14) (hrn : rn + 30 ≤ 1000) (hre : I 18 0 = nI rn) (nu va : Int32) (hnu : I 18 1 = nu) (hva : I 18 3 = va) (kk : Nat) (hk7 : kk < 7) (hkk : I 18 2 = nI kk) : Ct g yX0_run cX0_run 8 (some .int) 5 0 0 [.ref (g.1 + 18), .int 1, .int 6, .int xz, .int (nI dz)] I L (RT na nt ni) (NT nl) (NB + m) (Ps (some (.int ((knV (nI kk) nu va xz - va) + (2 + nu)))) (ctr I rn (70 :: ((11 :: knT (nI kk)) ++ [10]))) L (RT na nt ni) (NT nl) (NB + m)) := by
  refine ct_of (by decide +kernel) (Nat.le_of_ble_eq_true rfl) (fun F hnm hr => ?_)
  clear hnm
  show V g F cX0_run RX0 8 5 0 [(0, .ref (g.1 + 18)), (1, .int 1), (2, .int 6), (3, .int xz), (4, .int (nI dz))] [] I L (RT na nt ni) (NT nl) (NB + m) 0 0
  refine v_bipush (v := 7) dX0_run_0 (by decide) ?_
  refine v_iload_n dX0_run_2 rfl 1 rfl ?_
  refine v_imul dX0_run_3 ?_
  refine v_is (y := 7) (by decide) ?_
  refine v_iload_n dX0_run_4 rfl 2 rfl ?_
  refine v_iadd dX0_run_5 ?_
  refine v_is (y := 13) (by decide) ?_
  refine v_istore (lv2 := [(5, .int 13), (0, .ref (g.1 + 18)), (1, .int 1), (2, .int 6), (3, .int xz), (4, .int (nI dz))]) dX0_run_6 (by decide) rfl ?_
  refine v_iload dX0_run_8 5 rfl ?_
  refine v_bipush (v := 20) dX0_run_10 (by decide) ?_
  refine v_icmp_gtN (a := dz) (b := 20) (tgt := 29) dX0_run_12 (by decide) rfl rfl (by omega) (by omega) (fun h => by exfalso; omega) (fun h1 => ?_)
  refine v_iload dX0_run_15 0 rfl ?_
  refine v_if_lt (tgt := 29) dX0_run_17 (by decide) (fun h2 => by first | exact absurd h2 (by decide) | exact absurd (by decide) h2) (fun _ => ?_)
  refine v_iload dX0_run_20 0 rfl ?_
  refine v_getSBODIES uf_X0_38 dX0_run_22 (fun tq3 htq3 => ?_)
  refine v_tlen htq3 dX0_run_25 ?_
  refine v_icmp_lt (tgt := 31) dX0_run_26 (by decide) (fun _ => ?_) (fun h4 => by first | exact absurd h4 (by decide) | exact absurd (by decide) h4)
  refine v_getSBODIES uf_X0_38 dX0_run_31 (fun tq5 htq5 => ?_)
  refine v_iload dX0_run_34 0 rfl ?_
  refine v_tiload (j := 13) htq5 dX0_run_36 rfl (by omega) (by decide) ?_
  refine v_is (y := 70) rfl ?_
  refine v_istore (lv2 := [(6, .int 70), (5, .int 13), (0, .ref (g.1 + 18)), (1, .int 1), (2, .int 6), (3, .int xz), (4, .int (nI dz))]) dX0_run_37 (by decide) rfl ?_
  refine v_aload_n dX0_run_39 rfl 2 rfl ?_
  refine v_iload dX0_run_40 0 rfl ?_
  refine v_callVv (As := [.int 70]) (rest := []) lk_X0_41 (c_X0_note 70 rn (by omega) hre) dX0_run_42 rfl (ltn rfl) rfl rfl (Nat.le_of_ble_eq_true rfl) (by decide) ?_
  refine v_I (I2 := (ctr I rn [70])) rfl ?_
  refine v_iload dX0_run_45 6 rfl ?_
  refine v_iconst (v := 1) dX0_run_47 (by decide) ?_
  refine v_iadd dX0_run_48 ?_
  refine v_is (nx_add rfl rfl) ?_
  refine v_istore (lv2 := [(7, .int (nI (dz + 1))), (6, .int 70), (5, .int 13), (0, .ref (g.1 + 18)), (1, .int 1), (2, .int 6), (3, .int xz), (4, .int (nI dz))]) dX0_run_49 (by decide) rfl ?_
  refine v_iload dX0_run_51 1 rfl ?_
  refine v_look (off := 225) (tgt := 278) dX0_run_53 (by decide) (by decide) (by decide) ?_
  refine v_aload_n dX0_run_278 rfl 3 rfl ?_
  refine v_iconst (v := 1) dX0_run_279 (by decide) ?_
  refine v_iconst (v := 3) dX0_run_280 (by decide) ?_
  refine v_iload_n dX0_run_281 rfl 6 rfl ?_
  refine v_iload dX0_run_282 0 rfl ?_
  refine v_callVi (As := [.int 1, .int 3, .int xz, .int (nI (dz + 1))]) (rest := []) lk_X0_34 (c_run_1_3 (I := (ctr I rn [70])) xz (dz + 1) (rn := rn + ([70] : List Int32).length) (by omega) (by have h1 := knT_len (nI kk); have h2 := drT_le5 (nI kk); simp only [List.length_cons, List.length_nil, List.length_append]; omega) (ctr_0 [70] I rn hre) nu va ((ctr_18 [70] I rn _ (by decide)).trans hnu) ((ctr_18 [70] I rn _ (by decide)).trans hva) kk hk7 ((ctr_18 [70] I rn _ (by decide)).trans hkk)) dX0_run_284 rfl (ltn rfl) rfl rfl (Nat.le_of_ble_eq_true rfl) (by decide) ?_
  refine v_I (I2 := (ctr I rn ([70] ++ (11 :: knT (nI kk))))) (ctr_app _ _ _ _) ?_
  refine v_aload_n dX0_run_287 rfl 3 rfl ?_
  refine v_iconst (v := 0) dX0_run_288 (by decide) ?_
  refine v_iconst (v := 3) dX0_run_289 (by decide) ?_
  refine v_iconst (v := 2) dX0_run_290 (by decide) ?_
  refine v_iload dX0_run_291 0 rfl ?_
  refine v_callVi (As := [.int 0, .int 3, .int 2, .int (nI (dz + 1))]) (rest := [.int (knV (nI kk) nu va xz - va)]) lk_X0_34 (c_run_0_3 (I := (ctr I rn ([70] ++ (11 :: knT (nI kk))))) 2 (dz + 1) (rn := rn + (([70] ++ (11 :: knT (nI kk))) : List Int32).length) (by omega) (by have h1 := knT_len (nI kk); have h2 := drT_le5 (nI kk); simp only [List.length_cons, List.length_nil, List.length_append]; omega) (ctr_0 ([70] ++ (11 :: knT (nI kk))) I rn hre) nu va ((ctr_18 ([70] ++ (11 :: knT (nI kk))) I rn _ (by decide)).trans hnu) ((ctr_18 ([70] ++ (11 :: knT (nI kk))) I rn _ (by decide)).trans hva) kk hk7 ((ctr_18 ([70] ++ (11 :: knT (nI kk))) I rn _ (by decide)).trans hkk)) dX0_run_293 rfl (ltn rfl) rfl rfl (Nat.le_of_ble_eq_true rfl) (by decide) ?_
  refine v_I (I2 := (ctr I rn (([70] ++ (11 :: knT (nI kk))) ++ [10]))) (ctr_app _ _ _ _) ?_
  refine v_iadd dX0_run_296 ?_
  exact v_iret hr dX0_run_297 (⟨congrArg (fun z => some (Value.int z)) rfl, (congrArg (ctr I rn) (show (([70] ++ (11 :: knT (nI kk))) ++ [10]) = (70 :: ((11 :: knT (nI kk)) ++ [10])) from rfl)), rfl, rfl, rfl, rfl⟩)
theorem drV_k (nu va x : Int32) : (drV (nI 0) nu va x = (knV (nI 0) nu va x - va) ∧ drT (nI 0) = (11 :: knT (nI 0))) ∧ (drV (nI 1) nu va x = ((knV (nI 1) nu va x - va) ^^^ 6) ∧ drT (nI 1) = (20 :: (11 :: knT (nI 1)))) ∧ (drV (nI 2) nu va x = (knV (nI 2) nu va x - va) ∧ drT (nI 2) = (11 :: knT (nI 2))) ∧ (drV (nI 3) nu va x = (knV (nI 3) nu va x - va) ∧ drT (nI 3) = (11 :: knT (nI 3))) ∧ (drV (nI 4) nu va x = ((knV (nI 4) nu va (x + 1) - va) ^^^ 6) ∧ drT (nI 4) = (51 :: 20 :: (11 :: knT (nI 4)))) ∧ (drV (nI 5) nu va x = (knV (nI 5) nu va x - va) ∧ drT (nI 5) = (11 :: knT (nI 5))) ∧ (drV (nI 6) nu va x = ((knV (nI 6) nu va x - va) + (2 + nu)) ∧ drT (nI 6) = (70 :: ((11 :: knT (nI 6)) ++ [10]))) := by
  unfold drV drT tdV tdT
  refine ⟨⟨?_, ?_⟩, ⟨?_, ?_⟩, ⟨?_, ?_⟩, ⟨?_, ?_⟩, ⟨?_, ?_⟩, ⟨?_, ?_⟩, ⟨?_, ?_⟩⟩ <;> first | (rw [ifc_t (by decide)]; done) | (rw [ifc_f (by decide), ifc_t (by decide)]; done) | (rw [ifc_f (by decide), ifc_f (by decide), ifc_t (by decide)]; done) | (rw [ifc_f (by decide), ifc_f (by decide), ifc_f (by decide)]; done)
theorem c_run1 {g : Gl} {I : Ty} {L : TL} {na nt ni m : Nat} {nl : Nat → Nat} {rn : Nat} (xz : Int32) (dz : Nat) (hdz : dz ≤ 14) (hrn : rn + 30 ≤ 1000) (hre : I 18 0 = nI rn) (nu va : Int32) (hnu : I 18 1 = nu) (hva : I 18 3 = va) (kk : Nat) (hk7 : kk < 7) (hkk : I 18 2 = nI kk) : Ct g yX0_run cX0_run 8 (some .int) 5 0 0 [.ref (g.1 + 18), .int 1, .int (nI kk), .int xz, .int (nI dz)] I L (RT na nt ni) (NT nl) (NB + m) (Ps (some (.int (drV (nI kk) nu va xz))) (ctr I rn (drT (nI kk))) L (RT na nt ni) (NT nl) (NB + m)) := by
  rcases (show kk = 0 ∨ kk = 1 ∨ kk = 2 ∨ kk = 3 ∨ kk = 4 ∨ kk = 5 ∨ kk = 6 by omega) with e | e | e | e | e | e | e <;> subst e
  · rw [(drV_k nu va xz).1.1, (drV_k nu va xz).1.2]; exact c_run_1_0b xz dz hdz hrn hre nu va hnu hva 0 hk7 hkk
  · rw [(drV_k nu va xz).2.1.1, (drV_k nu va xz).2.1.2]; exact c_run_1_1b xz dz hdz hrn hre nu va hnu hva 1 hk7 hkk
  · rw [(drV_k nu va xz).2.2.1.1, (drV_k nu va xz).2.2.1.2]; exact c_run_1_2b xz dz hdz hrn hre nu va hnu hva 2 hk7 hkk
  · rw [(drV_k nu va xz).2.2.2.1.1, (drV_k nu va xz).2.2.2.1.2]; exact c_run_1_3b xz dz hdz hrn hre nu va hnu hva 3 hk7 hkk
  · rw [(drV_k nu va xz).2.2.2.2.1.1, (drV_k nu va xz).2.2.2.2.1.2]; exact c_run_1_4b xz dz hdz hrn hre nu va hnu hva 4 hk7 hkk
  · rw [(drV_k nu va xz).2.2.2.2.2.1.1, (drV_k nu va xz).2.2.2.2.2.1.2]; exact c_run_1_5b xz dz hdz hrn hre nu va hnu hva 5 hk7 hkk
  · rw [(drV_k nu va xz).2.2.2.2.2.2.1, (drV_k nu va xz).2.2.2.2.2.2.2]; exact c_run_1_6b xz dz hdz hrn hre nu va hnu hva 6 hk7 hkk
set_option maxRecDepth 100000 in
set_option maxHeartbeats 1000000 in
theorem c_run_2_0 {g : Gl} {I : Ty} {L : TL} {na nt ni m : Nat} {nl : Nat → Nat} {rn : Nat} (xz : Int32) (dz : Nat) (hdz : dz ≤ 12) (hrn : rn + 50 ≤ 1000) (hre : I 18 0 = nI rn) (nu va : Int32) (hnu : I 18 1 = nu) (hva : I 18 3 = va) (kk : Nat) (hk7 : kk < 7) (hkk : I 18 2 = nI kk) : Ct g yX0_run cX0_run 8 (some .int) 6 0 0 [.ref (g.1 + 18), .int 2, .int 0, .int xz, .int (nI dz)] I L (RT na nt ni) (NT nl) (NB + m) (Ps (some (.int (drV (nI kk) nu va xz * 2))) (ctr I rn (12 :: drT (nI kk))) L (RT na nt ni) (NT nl) (NB + m)) := by
  refine ct_of (by decide +kernel) (Nat.le_of_ble_eq_true rfl) (fun F hnm hr => ?_)
  clear hnm
  show V g F cX0_run RX0 8 6 0 [(0, .ref (g.1 + 18)), (1, .int 2), (2, .int 0), (3, .int xz), (4, .int (nI dz))] [] I L (RT na nt ni) (NT nl) (NB + m) 0 0
  refine v_bipush (v := 7) dX0_run_0 (by decide) ?_
  refine v_iload_n dX0_run_2 rfl 1 rfl ?_
  refine v_imul dX0_run_3 ?_
  refine v_is (y := 14) (by decide) ?_
  refine v_iload_n dX0_run_4 rfl 2 rfl ?_
  refine v_iadd dX0_run_5 ?_
  refine v_is (y := 14) (by decide) ?_
  refine v_istore (lv2 := [(5, .int 14), (0, .ref (g.1 + 18)), (1, .int 2), (2, .int 0), (3, .int xz), (4, .int (nI dz))]) dX0_run_6 (by decide) rfl ?_
  refine v_iload dX0_run_8 5 rfl ?_
  refine v_bipush (v := 20) dX0_run_10 (by decide) ?_
  refine v_icmp_gtN (a := dz) (b := 20) (tgt := 29) dX0_run_12 (by decide) rfl rfl (by omega) (by omega) (fun h => by exfalso; omega) (fun h1 => ?_)
  refine v_iload dX0_run_15 0 rfl ?_
  refine v_if_lt (tgt := 29) dX0_run_17 (by decide) (fun h2 => by first | exact absurd h2 (by decide) | exact absurd (by decide) h2) (fun _ => ?_)
  refine v_iload dX0_run_20 0 rfl ?_
  refine v_getSBODIES uf_X0_38 dX0_run_22 (fun tq3 htq3 => ?_)
  refine v_tlen htq3 dX0_run_25 ?_
  refine v_icmp_lt (tgt := 31) dX0_run_26 (by decide) (fun _ => ?_) (fun h4 => by first | exact absurd h4 (by decide) | exact absurd (by decide) h4)
  refine v_getSBODIES uf_X0_38 dX0_run_31 (fun tq5 htq5 => ?_)
  refine v_iload dX0_run_34 0 rfl ?_
  refine v_tiload (j := 14) htq5 dX0_run_36 rfl (by omega) (by decide) ?_
  refine v_is (y := 12) rfl ?_
  refine v_istore (lv2 := [(6, .int 12), (5, .int 14), (0, .ref (g.1 + 18)), (1, .int 2), (2, .int 0), (3, .int xz), (4, .int (nI dz))]) dX0_run_37 (by decide) rfl ?_
  refine v_aload_n dX0_run_39 rfl 2 rfl ?_
  refine v_iload dX0_run_40 0 rfl ?_
  refine v_callVv (As := [.int 12]) (rest := []) lk_X0_41 (c_X0_note 12 rn (by omega) hre) dX0_run_42 rfl (ltn rfl) rfl rfl (Nat.le_of_ble_eq_true rfl) (by decide) ?_
  refine v_I (I2 := (ctr I rn [12])) rfl ?_
  refine v_iload dX0_run_45 6 rfl ?_
  refine v_iconst (v := 1) dX0_run_47 (by decide) ?_
  refine v_iadd dX0_run_48 ?_
  refine v_is (nx_add rfl rfl) ?_
  refine v_istore (lv2 := [(7, .int (nI (dz + 1))), (6, .int 12), (5, .int 14), (0, .ref (g.1 + 18)), (1, .int 2), (2, .int 0), (3, .int xz), (4, .int (nI dz))]) dX0_run_49 (by decide) rfl ?_
  refine v_iload dX0_run_51 1 rfl ?_
  refine v_look (off := 124) (tgt := 177) dX0_run_53 (by decide) (by decide) (by decide) ?_
  refine v_aload_n dX0_run_177 rfl 3 rfl ?_
  refine v_iconst (v := 1) dX0_run_178 (by decide) ?_
  refine v_aload_n dX0_run_179 rfl 3 rfl ?_
  refine v_get (v := .int ((ctr I rn [12]) 18 2)) fa_X0_28 dX0_run_180 rfl (by decide) (ltn rfl) rfl ?_
  refine v_is (y := nI kk) (by exact (ctr_18 _ _ _ _ (by decide)).trans hkk) ?_
  refine v_iload_n dX0_run_183 rfl 6 rfl ?_
  refine v_iload dX0_run_184 0 rfl ?_
  refine v_callVi (As := [.int 1, .int (nI kk), .int xz, .int (nI (dz + 1))]) (rest := []) lk_X0_34 (c_run1 (I := (ctr I rn [12])) xz (dz + 1) (rn := rn + ([12] : List Int32).length) (by omega) (by have h1 := knT_len (nI kk); have h2 := drT_le5 (nI kk); simp only [List.length_cons, List.length_nil, List.length_append]; omega) (ctr_0 [12] I rn hre) nu va ((ctr_18 [12] I rn _ (by decide)).trans hnu) ((ctr_18 [12] I rn _ (by decide)).trans hva) kk hk7 ((ctr_18 [12] I rn _ (by decide)).trans hkk)) dX0_run_186 rfl (ltn rfl) rfl rfl (Nat.le_of_ble_eq_true rfl) (by decide) ?_
  refine v_I (I2 := (ctr I rn ([12] ++ (drT (nI kk))))) (ctr_app _ _ _ _) ?_
  refine v_iconst (v := 2) dX0_run_189 (by decide) ?_
  refine v_imul dX0_run_190 ?_
  exact v_iret hr dX0_run_191 (⟨congrArg (fun z => some (Value.int z)) rfl, (congrArg (ctr I rn) (show ([12] ++ (drT (nI kk))) = (12 :: drT (nI kk)) from rfl)), rfl, rfl, rfl, rfl⟩)
set_option maxRecDepth 100000 in
set_option maxHeartbeats 1000000 in
theorem c_run_2_2 {g : Gl} {I : Ty} {L : TL} {na nt ni m : Nat} {nl : Nat → Nat} {rn : Nat} (xz : Int32) (dz : Nat) (hdz : dz ≤ 12) (hrn : rn + 50 ≤ 1000) (hre : I 18 0 = nI rn) (nu va : Int32) (hnu : I 18 1 = nu) (hva : I 18 3 = va) (kk : Nat) (hk7 : kk < 7) (hkk : I 18 2 = nI kk) : Ct g yX0_run cX0_run 8 (some .int) 6 0 0 [.ref (g.1 + 18), .int 2, .int 2, .int xz, .int (nI dz)] I L (RT na nt ni) (NT nl) (NB + m) (Ps (some (.int (drV (nI kk) nu va xz * 2))) (ctr I rn (12 :: drT (nI kk))) L (RT na nt ni) (NT nl) (NB + m)) := by
  refine ct_of (by decide +kernel) (Nat.le_of_ble_eq_true rfl) (fun F hnm hr => ?_)
  clear hnm
  show V g F cX0_run RX0 8 6 0 [(0, .ref (g.1 + 18)), (1, .int 2), (2, .int 2), (3, .int xz), (4, .int (nI dz))] [] I L (RT na nt ni) (NT nl) (NB + m) 0 0
  refine v_bipush (v := 7) dX0_run_0 (by decide) ?_
  refine v_iload_n dX0_run_2 rfl 1 rfl ?_
  refine v_imul dX0_run_3 ?_
  refine v_is (y := 14) (by decide) ?_
  refine v_iload_n dX0_run_4 rfl 2 rfl ?_
  refine v_iadd dX0_run_5 ?_
  refine v_is (y := 16) (by decide) ?_
  refine v_istore (lv2 := [(5, .int 16), (0, .ref (g.1 + 18)), (1, .int 2), (2, .int 2), (3, .int xz), (4, .int (nI dz))]) dX0_run_6 (by decide) rfl ?_
  refine v_iload dX0_run_8 5 rfl ?_
  refine v_bipush (v := 20) dX0_run_10 (by decide) ?_
  refine v_icmp_gtN (a := dz) (b := 20) (tgt := 29) dX0_run_12 (by decide) rfl rfl (by omega) (by omega) (fun h => by exfalso; omega) (fun h1 => ?_)
  refine v_iload dX0_run_15 0 rfl ?_
  refine v_if_lt (tgt := 29) dX0_run_17 (by decide) (fun h2 => by first | exact absurd h2 (by decide) | exact absurd (by decide) h2) (fun _ => ?_)
  refine v_iload dX0_run_20 0 rfl ?_
  refine v_getSBODIES uf_X0_38 dX0_run_22 (fun tq3 htq3 => ?_)
  refine v_tlen htq3 dX0_run_25 ?_
  refine v_icmp_lt (tgt := 31) dX0_run_26 (by decide) (fun _ => ?_) (fun h4 => by first | exact absurd h4 (by decide) | exact absurd (by decide) h4)
  refine v_getSBODIES uf_X0_38 dX0_run_31 (fun tq5 htq5 => ?_)
  refine v_iload dX0_run_34 0 rfl ?_
  refine v_tiload (j := 16) htq5 dX0_run_36 rfl (by omega) (by decide) ?_
  refine v_is (y := 12) rfl ?_
  refine v_istore (lv2 := [(6, .int 12), (5, .int 16), (0, .ref (g.1 + 18)), (1, .int 2), (2, .int 2), (3, .int xz), (4, .int (nI dz))]) dX0_run_37 (by decide) rfl ?_
  refine v_aload_n dX0_run_39 rfl 2 rfl ?_
  refine v_iload dX0_run_40 0 rfl ?_
  refine v_callVv (As := [.int 12]) (rest := []) lk_X0_41 (c_X0_note 12 rn (by omega) hre) dX0_run_42 rfl (ltn rfl) rfl rfl (Nat.le_of_ble_eq_true rfl) (by decide) ?_
  refine v_I (I2 := (ctr I rn [12])) rfl ?_
  refine v_iload dX0_run_45 6 rfl ?_
  refine v_iconst (v := 1) dX0_run_47 (by decide) ?_
  refine v_iadd dX0_run_48 ?_
  refine v_is (nx_add rfl rfl) ?_
  refine v_istore (lv2 := [(7, .int (nI (dz + 1))), (6, .int 12), (5, .int 16), (0, .ref (g.1 + 18)), (1, .int 2), (2, .int 2), (3, .int xz), (4, .int (nI dz))]) dX0_run_49 (by decide) rfl ?_
  refine v_iload dX0_run_51 1 rfl ?_
  refine v_look (off := 124) (tgt := 177) dX0_run_53 (by decide) (by decide) (by decide) ?_
  refine v_aload_n dX0_run_177 rfl 3 rfl ?_
  refine v_iconst (v := 1) dX0_run_178 (by decide) ?_
  refine v_aload_n dX0_run_179 rfl 3 rfl ?_
  refine v_get (v := .int ((ctr I rn [12]) 18 2)) fa_X0_28 dX0_run_180 rfl (by decide) (ltn rfl) rfl ?_
  refine v_is (y := nI kk) (by exact (ctr_18 _ _ _ _ (by decide)).trans hkk) ?_
  refine v_iload_n dX0_run_183 rfl 6 rfl ?_
  refine v_iload dX0_run_184 0 rfl ?_
  refine v_callVi (As := [.int 1, .int (nI kk), .int xz, .int (nI (dz + 1))]) (rest := []) lk_X0_34 (c_run1 (I := (ctr I rn [12])) xz (dz + 1) (rn := rn + ([12] : List Int32).length) (by omega) (by have h1 := knT_len (nI kk); have h2 := drT_le5 (nI kk); simp only [List.length_cons, List.length_nil, List.length_append]; omega) (ctr_0 [12] I rn hre) nu va ((ctr_18 [12] I rn _ (by decide)).trans hnu) ((ctr_18 [12] I rn _ (by decide)).trans hva) kk hk7 ((ctr_18 [12] I rn _ (by decide)).trans hkk)) dX0_run_186 rfl (ltn rfl) rfl rfl (Nat.le_of_ble_eq_true rfl) (by decide) ?_
  refine v_I (I2 := (ctr I rn ([12] ++ (drT (nI kk))))) (ctr_app _ _ _ _) ?_
  refine v_iconst (v := 2) dX0_run_189 (by decide) ?_
  refine v_imul dX0_run_190 ?_
  exact v_iret hr dX0_run_191 (⟨congrArg (fun z => some (Value.int z)) rfl, (congrArg (ctr I rn) (show ([12] ++ (drT (nI kk))) = (12 :: drT (nI kk)) from rfl)), rfl, rfl, rfl, rfl⟩)
set_option maxRecDepth 100000 in
set_option maxHeartbeats 1000000 in
theorem c_run_2_0b {g : Gl} {I : Ty} {L : TL} {na nt ni m : Nat} {nl : Nat → Nat} {rn : Nat} (xz : Int32) (dz : Nat) (hdz : dz ≤ 10) (hrn : rn + 60 ≤ 1000) (hre : I 18 0 = nI rn) (nu va : Int32) (hnu : I 18 1 = nu) (hva : I 18 3 = va) (kk : Nat) (hk7 : kk < 7) (hkk : I 18 2 = nI kk) : Ct g yX0_run cX0_run 8 (some .int) 7 0 0 [.ref (g.1 + 18), .int 2, .int 0, .int xz, .int (nI dz)] I L (RT na nt ni) (NT nl) (NB + m) (Ps (some (.int (drV (nI kk) nu va xz * 2))) (ctr I rn (12 :: drT (nI kk))) L (RT na nt ni) (NT nl) (NB + m)) := by
  refine ct_of (by decide +kernel) (Nat.le_of_ble_eq_true rfl) (fun F hnm hr => ?_)
  clear hnm
  show V g F cX0_run RX0 8 7 0 [(0, .ref (g.1 + 18)), (1, .int 2), (2, .int 0), (3, .int xz), (4, .int (nI dz))] [] I L (RT na nt ni) (NT nl) (NB + m) 0 0
  refine v_bipush (v := 7) dX0_run_0 (by decide) ?_
  refine v_iload_n dX0_run_2 rfl 1 rfl ?_
  refine v_imul dX0_run_3 ?_
  refine v_is (y := 14) (by decide) ?_
  refine v_iload_n dX0_run_4 rfl 2 rfl ?_
  refine v_iadd dX0_run_5 ?_
  refine v_is (y := 14) (by decide) ?_
  refine v_istore (lv2 := [(5, .int 14), (0, .ref (g.1 + 18)), (1, .int 2), (2, .int 0), (3, .int xz), (4, .int (nI dz))]) dX0_run_6 (by decide) rfl ?_
  refine v_iload dX0_run_8 5 rfl ?_
  refine v_bipush (v := 20) dX0_run_10 (by decide) ?_
  refine v_icmp_gtN (a := dz) (b := 20) (tgt := 29) dX0_run_12 (by decide) rfl rfl (by omega) (by omega) (fun h => by exfalso; omega) (fun h1 => ?_)
  refine v_iload dX0_run_15 0 rfl ?_
  refine v_if_lt (tgt := 29) dX0_run_17 (by decide) (fun h2 => by first | exact absurd h2 (by decide) | exact absurd (by decide) h2) (fun _ => ?_)
  refine v_iload dX0_run_20 0 rfl ?_
  refine v_getSBODIES uf_X0_38 dX0_run_22 (fun tq3 htq3 => ?_)
  refine v_tlen htq3 dX0_run_25 ?_
  refine v_icmp_lt (tgt := 31) dX0_run_26 (by decide) (fun _ => ?_) (fun h4 => by first | exact absurd h4 (by decide) | exact absurd (by decide) h4)
  refine v_getSBODIES uf_X0_38 dX0_run_31 (fun tq5 htq5 => ?_)
  refine v_iload dX0_run_34 0 rfl ?_
  refine v_tiload (j := 14) htq5 dX0_run_36 rfl (by omega) (by decide) ?_
  refine v_is (y := 12) rfl ?_
  refine v_istore (lv2 := [(6, .int 12), (5, .int 14), (0, .ref (g.1 + 18)), (1, .int 2), (2, .int 0), (3, .int xz), (4, .int (nI dz))]) dX0_run_37 (by decide) rfl ?_
  refine v_aload_n dX0_run_39 rfl 2 rfl ?_
  refine v_iload dX0_run_40 0 rfl ?_
  refine v_callVv (As := [.int 12]) (rest := []) lk_X0_41 (c_X0_note 12 rn (by omega) hre) dX0_run_42 rfl (ltn rfl) rfl rfl (Nat.le_of_ble_eq_true rfl) (by decide) ?_
  refine v_I (I2 := (ctr I rn [12])) rfl ?_
  refine v_iload dX0_run_45 6 rfl ?_
  refine v_iconst (v := 1) dX0_run_47 (by decide) ?_
  refine v_iadd dX0_run_48 ?_
  refine v_is (nx_add rfl rfl) ?_
  refine v_istore (lv2 := [(7, .int (nI (dz + 1))), (6, .int 12), (5, .int 14), (0, .ref (g.1 + 18)), (1, .int 2), (2, .int 0), (3, .int xz), (4, .int (nI dz))]) dX0_run_49 (by decide) rfl ?_
  refine v_iload dX0_run_51 1 rfl ?_
  refine v_look (off := 124) (tgt := 177) dX0_run_53 (by decide) (by decide) (by decide) ?_
  refine v_aload_n dX0_run_177 rfl 3 rfl ?_
  refine v_iconst (v := 1) dX0_run_178 (by decide) ?_
  refine v_aload_n dX0_run_179 rfl 3 rfl ?_
  refine v_get (v := .int ((ctr I rn [12]) 18 2)) fa_X0_28 dX0_run_180 rfl (by decide) (ltn rfl) rfl ?_
  refine v_is (y := nI kk) (by exact (ctr_18 _ _ _ _ (by decide)).trans hkk) ?_
  refine v_iload_n dX0_run_183 rfl 6 rfl ?_
  refine v_iload dX0_run_184 0 rfl ?_
  refine v_callVi (As := [.int 1, .int (nI kk), .int xz, .int (nI (dz + 1))]) (rest := []) lk_X0_34 (c_run1 (I := (ctr I rn [12])) xz (dz + 1) (rn := rn + ([12] : List Int32).length) (by omega) (by have h1 := knT_len (nI kk); have h2 := drT_le5 (nI kk); simp only [List.length_cons, List.length_nil, List.length_append]; omega) (ctr_0 [12] I rn hre) nu va ((ctr_18 [12] I rn _ (by decide)).trans hnu) ((ctr_18 [12] I rn _ (by decide)).trans hva) kk hk7 ((ctr_18 [12] I rn _ (by decide)).trans hkk)) dX0_run_186 rfl (ltn rfl) rfl rfl (Nat.le_of_ble_eq_true rfl) (by decide) ?_
  refine v_I (I2 := (ctr I rn ([12] ++ (drT (nI kk))))) (ctr_app _ _ _ _) ?_
  refine v_iconst (v := 2) dX0_run_189 (by decide) ?_
  refine v_imul dX0_run_190 ?_
  exact v_iret hr dX0_run_191 (⟨congrArg (fun z => some (Value.int z)) rfl, (congrArg (ctr I rn) (show ([12] ++ (drT (nI kk))) = (12 :: drT (nI kk)) from rfl)), rfl, rfl, rfl, rfl⟩)
set_option maxRecDepth 100000 in
set_option maxHeartbeats 1000000 in
theorem c_run_2_1b {g : Gl} {I : Ty} {L : TL} {na nt ni m : Nat} {nl : Nat → Nat} {rn : Nat} (xz : Int32) (dz : Nat) (hdz : dz ≤ 10) (hrn : rn + 60 ≤ 1000) (hre : I 18 0 = nI rn) (nu va : Int32) (hnu : I 18 1 = nu) (hva : I 18 3 = va) (kk : Nat) (hk7 : kk < 7) (hkk : I 18 2 = nI kk) : Ct g yX0_run cX0_run 8 (some .int) 7 0 0 [.ref (g.1 + 18), .int 2, .int 1, .int xz, .int (nI dz)] I L (RT na nt ni) (NT nl) (NB + m) (Ps (some (.int (drV (nI kk) nu va xz * 2))) (ctr I rn (12 :: drT (nI kk))) L (RT na nt ni) (NT nl) (NB + m)) := by
  refine ct_of (by decide +kernel) (Nat.le_of_ble_eq_true rfl) (fun F hnm hr => ?_)
  clear hnm
  show V g F cX0_run RX0 8 7 0 [(0, .ref (g.1 + 18)), (1, .int 2), (2, .int 1), (3, .int xz), (4, .int (nI dz))] [] I L (RT na nt ni) (NT nl) (NB + m) 0 0
  refine v_bipush (v := 7) dX0_run_0 (by decide) ?_
  refine v_iload_n dX0_run_2 rfl 1 rfl ?_
  refine v_imul dX0_run_3 ?_
  refine v_is (y := 14) (by decide) ?_
  refine v_iload_n dX0_run_4 rfl 2 rfl ?_
  refine v_iadd dX0_run_5 ?_
  refine v_is (y := 15) (by decide) ?_
  refine v_istore (lv2 := [(5, .int 15), (0, .ref (g.1 + 18)), (1, .int 2), (2, .int 1), (3, .int xz), (4, .int (nI dz))]) dX0_run_6 (by decide) rfl ?_
  refine v_iload dX0_run_8 5 rfl ?_
  refine v_bipush (v := 20) dX0_run_10 (by decide) ?_
  refine v_icmp_gtN (a := dz) (b := 20) (tgt := 29) dX0_run_12 (by decide) rfl rfl (by omega) (by omega) (fun h => by exfalso; omega) (fun h1 => ?_)
  refine v_iload dX0_run_15 0 rfl ?_
  refine v_if_lt (tgt := 29) dX0_run_17 (by decide) (fun h2 => by first | exact absurd h2 (by decide) | exact absurd (by decide) h2) (fun _ => ?_)
  refine v_iload dX0_run_20 0 rfl ?_
  refine v_getSBODIES uf_X0_38 dX0_run_22 (fun tq3 htq3 => ?_)
  refine v_tlen htq3 dX0_run_25 ?_
  refine v_icmp_lt (tgt := 31) dX0_run_26 (by decide) (fun _ => ?_) (fun h4 => by first | exact absurd h4 (by decide) | exact absurd (by decide) h4)
  refine v_getSBODIES uf_X0_38 dX0_run_31 (fun tq5 htq5 => ?_)
  refine v_iload dX0_run_34 0 rfl ?_
  refine v_tiload (j := 15) htq5 dX0_run_36 rfl (by omega) (by decide) ?_
  refine v_is (y := 12) rfl ?_
  refine v_istore (lv2 := [(6, .int 12), (5, .int 15), (0, .ref (g.1 + 18)), (1, .int 2), (2, .int 1), (3, .int xz), (4, .int (nI dz))]) dX0_run_37 (by decide) rfl ?_
  refine v_aload_n dX0_run_39 rfl 2 rfl ?_
  refine v_iload dX0_run_40 0 rfl ?_
  refine v_callVv (As := [.int 12]) (rest := []) lk_X0_41 (c_X0_note 12 rn (by omega) hre) dX0_run_42 rfl (ltn rfl) rfl rfl (Nat.le_of_ble_eq_true rfl) (by decide) ?_
  refine v_I (I2 := (ctr I rn [12])) rfl ?_
  refine v_iload dX0_run_45 6 rfl ?_
  refine v_iconst (v := 1) dX0_run_47 (by decide) ?_
  refine v_iadd dX0_run_48 ?_
  refine v_is (nx_add rfl rfl) ?_
  refine v_istore (lv2 := [(7, .int (nI (dz + 1))), (6, .int 12), (5, .int 15), (0, .ref (g.1 + 18)), (1, .int 2), (2, .int 1), (3, .int xz), (4, .int (nI dz))]) dX0_run_49 (by decide) rfl ?_
  refine v_iload dX0_run_51 1 rfl ?_
  refine v_look (off := 124) (tgt := 177) dX0_run_53 (by decide) (by decide) (by decide) ?_
  refine v_aload_n dX0_run_177 rfl 3 rfl ?_
  refine v_iconst (v := 1) dX0_run_178 (by decide) ?_
  refine v_aload_n dX0_run_179 rfl 3 rfl ?_
  refine v_get (v := .int ((ctr I rn [12]) 18 2)) fa_X0_28 dX0_run_180 rfl (by decide) (ltn rfl) rfl ?_
  refine v_is (y := nI kk) (by exact (ctr_18 _ _ _ _ (by decide)).trans hkk) ?_
  refine v_iload_n dX0_run_183 rfl 6 rfl ?_
  refine v_iload dX0_run_184 0 rfl ?_
  refine v_callVi (As := [.int 1, .int (nI kk), .int xz, .int (nI (dz + 1))]) (rest := []) lk_X0_34 (c_run1 (I := (ctr I rn [12])) xz (dz + 1) (rn := rn + ([12] : List Int32).length) (by omega) (by have h1 := knT_len (nI kk); have h2 := drT_le5 (nI kk); simp only [List.length_cons, List.length_nil, List.length_append]; omega) (ctr_0 [12] I rn hre) nu va ((ctr_18 [12] I rn _ (by decide)).trans hnu) ((ctr_18 [12] I rn _ (by decide)).trans hva) kk hk7 ((ctr_18 [12] I rn _ (by decide)).trans hkk)) dX0_run_186 rfl (ltn rfl) rfl rfl (Nat.le_of_ble_eq_true rfl) (by decide) ?_
  refine v_I (I2 := (ctr I rn ([12] ++ (drT (nI kk))))) (ctr_app _ _ _ _) ?_
  refine v_iconst (v := 2) dX0_run_189 (by decide) ?_
  refine v_imul dX0_run_190 ?_
  exact v_iret hr dX0_run_191 (⟨congrArg (fun z => some (Value.int z)) rfl, (congrArg (ctr I rn) (show ([12] ++ (drT (nI kk))) = (12 :: drT (nI kk)) from rfl)), rfl, rfl, rfl, rfl⟩)
set_option maxRecDepth 100000 in
set_option maxHeartbeats 1000000 in
theorem c_run_2_2b {g : Gl} {I : Ty} {L : TL} {na nt ni m : Nat} {nl : Nat → Nat} {rn : Nat} (xz : Int32) (dz : Nat) (hdz : dz ≤ 10) (hrn : rn + 60 ≤ 1000) (hre : I 18 0 = nI rn) (nu va : Int32) (hnu : I 18 1 = nu) (hva : I 18 3 = va) (kk : Nat) (hk7 : kk < 7) (hkk : I 18 2 = nI kk) : Ct g yX0_run cX0_run 8 (some .int) 7 0 0 [.ref (g.1 + 18), .int 2, .int 2, .int xz, .int (nI dz)] I L (RT na nt ni) (NT nl) (NB + m) (Ps (some (.int (drV (nI kk) nu va xz * 2))) (ctr I rn (12 :: drT (nI kk))) L (RT na nt ni) (NT nl) (NB + m)) := by
  refine ct_of (by decide +kernel) (Nat.le_of_ble_eq_true rfl) (fun F hnm hr => ?_)
  clear hnm
  show V g F cX0_run RX0 8 7 0 [(0, .ref (g.1 + 18)), (1, .int 2), (2, .int 2), (3, .int xz), (4, .int (nI dz))] [] I L (RT na nt ni) (NT nl) (NB + m) 0 0
  refine v_bipush (v := 7) dX0_run_0 (by decide) ?_
  refine v_iload_n dX0_run_2 rfl 1 rfl ?_
  refine v_imul dX0_run_3 ?_
  refine v_is (y := 14) (by decide) ?_
  refine v_iload_n dX0_run_4 rfl 2 rfl ?_
  refine v_iadd dX0_run_5 ?_
  refine v_is (y := 16) (by decide) ?_
  refine v_istore (lv2 := [(5, .int 16), (0, .ref (g.1 + 18)), (1, .int 2), (2, .int 2), (3, .int xz), (4, .int (nI dz))]) dX0_run_6 (by decide) rfl ?_
  refine v_iload dX0_run_8 5 rfl ?_
  refine v_bipush (v := 20) dX0_run_10 (by decide) ?_
  refine v_icmp_gtN (a := dz) (b := 20) (tgt := 29) dX0_run_12 (by decide) rfl rfl (by omega) (by omega) (fun h => by exfalso; omega) (fun h1 => ?_)
  refine v_iload dX0_run_15 0 rfl ?_
  refine v_if_lt (tgt := 29) dX0_run_17 (by decide) (fun h2 => by first | exact absurd h2 (by decide) | exact absurd (by decide) h2) (fun _ => ?_)
  refine v_iload dX0_run_20 0 rfl ?_
  refine v_getSBODIES uf_X0_38 dX0_run_22 (fun tq3 htq3 => ?_)
  refine v_tlen htq3 dX0_run_25 ?_
  refine v_icmp_lt (tgt := 31) dX0_run_26 (by decide) (fun _ => ?_) (fun h4 => by first | exact absurd h4 (by decide) | exact absurd (by decide) h4)
  refine v_getSBODIES uf_X0_38 dX0_run_31 (fun tq5 htq5 => ?_)
  refine v_iload dX0_run_34 0 rfl ?_
  refine v_tiload (j := 16) htq5 dX0_run_36 rfl (by omega) (by decide) ?_
  refine v_is (y := 12) rfl ?_
  refine v_istore (lv2 := [(6, .int 12), (5, .int 16), (0, .ref (g.1 + 18)), (1, .int 2), (2, .int 2), (3, .int xz), (4, .int (nI dz))]) dX0_run_37 (by decide) rfl ?_
  refine v_aload_n dX0_run_39 rfl 2 rfl ?_
  refine v_iload dX0_run_40 0 rfl ?_
  refine v_callVv (As := [.int 12]) (rest := []) lk_X0_41 (c_X0_note 12 rn (by omega) hre) dX0_run_42 rfl (ltn rfl) rfl rfl (Nat.le_of_ble_eq_true rfl) (by decide) ?_
  refine v_I (I2 := (ctr I rn [12])) rfl ?_
  refine v_iload dX0_run_45 6 rfl ?_
  refine v_iconst (v := 1) dX0_run_47 (by decide) ?_
  refine v_iadd dX0_run_48 ?_
  refine v_is (nx_add rfl rfl) ?_
  refine v_istore (lv2 := [(7, .int (nI (dz + 1))), (6, .int 12), (5, .int 16), (0, .ref (g.1 + 18)), (1, .int 2), (2, .int 2), (3, .int xz), (4, .int (nI dz))]) dX0_run_49 (by decide) rfl ?_
  refine v_iload dX0_run_51 1 rfl ?_
  refine v_look (off := 124) (tgt := 177) dX0_run_53 (by decide) (by decide) (by decide) ?_
  refine v_aload_n dX0_run_177 rfl 3 rfl ?_
  refine v_iconst (v := 1) dX0_run_178 (by decide) ?_
  refine v_aload_n dX0_run_179 rfl 3 rfl ?_
  refine v_get (v := .int ((ctr I rn [12]) 18 2)) fa_X0_28 dX0_run_180 rfl (by decide) (ltn rfl) rfl ?_
  refine v_is (y := nI kk) (by exact (ctr_18 _ _ _ _ (by decide)).trans hkk) ?_
  refine v_iload_n dX0_run_183 rfl 6 rfl ?_
  refine v_iload dX0_run_184 0 rfl ?_
  refine v_callVi (As := [.int 1, .int (nI kk), .int xz, .int (nI (dz + 1))]) (rest := []) lk_X0_34 (c_run1 (I := (ctr I rn [12])) xz (dz + 1) (rn := rn + ([12] : List Int32).length) (by omega) (by have h1 := knT_len (nI kk); have h2 := drT_le5 (nI kk); simp only [List.length_cons, List.length_nil, List.length_append]; omega) (ctr_0 [12] I rn hre) nu va ((ctr_18 [12] I rn _ (by decide)).trans hnu) ((ctr_18 [12] I rn _ (by decide)).trans hva) kk hk7 ((ctr_18 [12] I rn _ (by decide)).trans hkk)) dX0_run_186 rfl (ltn rfl) rfl rfl (Nat.le_of_ble_eq_true rfl) (by decide) ?_
  refine v_I (I2 := (ctr I rn ([12] ++ (drT (nI kk))))) (ctr_app _ _ _ _) ?_
  refine v_iconst (v := 2) dX0_run_189 (by decide) ?_
  refine v_imul dX0_run_190 ?_
  exact v_iret hr dX0_run_191 (⟨congrArg (fun z => some (Value.int z)) rfl, (congrArg (ctr I rn) (show ([12] ++ (drT (nI kk))) = (12 :: drT (nI kk)) from rfl)), rfl, rfl, rfl, rfl⟩)
set_option maxRecDepth 100000 in
set_option maxHeartbeats 1000000 in
theorem c_run_2_3b {g : Gl} {I : Ty} {L : TL} {na nt ni m : Nat} {nl : Nat → Nat} {rn : Nat} (xz : Int32) (dz : Nat) (hdz : dz ≤ 10) (hrn : rn + 60 ≤ 1000) (hre : I 18 0 = nI rn) (nu va : Int32) (hnu : I 18 1 = nu) (hva : I 18 3 = va) (kk : Nat) (hk7 : kk < 7) (hkk : I 18 2 = nI kk) : Ct g yX0_run cX0_run 8 (some .int) 7 0 0 [.ref (g.1 + 18), .int 2, .int 3, .int xz, .int (nI dz)] I L (RT na nt ni) (NT nl) (NB + m) (Ps (some (.int ((drV (nI kk) nu va xz * 2) + drV (nI kk) nu va 1))) (ctr I rn (40 :: ((12 :: drT (nI kk)) ++ drT (nI kk)))) L (RT na nt ni) (NT nl) (NB + m)) := by
  refine ct_of (by decide +kernel) (Nat.le_of_ble_eq_true rfl) (fun F hnm hr => ?_)
  clear hnm
  show V g F cX0_run RX0 8 7 0 [(0, .ref (g.1 + 18)), (1, .int 2), (2, .int 3), (3, .int xz), (4, .int (nI dz))] [] I L (RT na nt ni) (NT nl) (NB + m) 0 0
  refine v_bipush (v := 7) dX0_run_0 (by decide) ?_
  refine v_iload_n dX0_run_2 rfl 1 rfl ?_
  refine v_imul dX0_run_3 ?_
  refine v_is (y := 14) (by decide) ?_
  refine v_iload_n dX0_run_4 rfl 2 rfl ?_
  refine v_iadd dX0_run_5 ?_
  refine v_is (y := 17) (by decide) ?_
  refine v_istore (lv2 := [(5, .int 17), (0, .ref (g.1 + 18)), (1, .int 2), (2, .int 3), (3, .int xz), (4, .int (nI dz))]) dX0_run_6 (by decide) rfl ?_
  refine v_iload dX0_run_8 5 rfl ?_
  refine v_bipush (v := 20) dX0_run_10 (by decide) ?_
  refine v_icmp_gtN (a := dz) (b := 20) (tgt := 29) dX0_run_12 (by decide) rfl rfl (by omega) (by omega) (fun h => by exfalso; omega) (fun h1 => ?_)
  refine v_iload dX0_run_15 0 rfl ?_
  refine v_if_lt (tgt := 29) dX0_run_17 (by decide) (fun h2 => by first | exact absurd h2 (by decide) | exact absurd (by decide) h2) (fun _ => ?_)
  refine v_iload dX0_run_20 0 rfl ?_
  refine v_getSBODIES uf_X0_38 dX0_run_22 (fun tq3 htq3 => ?_)
  refine v_tlen htq3 dX0_run_25 ?_
  refine v_icmp_lt (tgt := 31) dX0_run_26 (by decide) (fun _ => ?_) (fun h4 => by first | exact absurd h4 (by decide) | exact absurd (by decide) h4)
  refine v_getSBODIES uf_X0_38 dX0_run_31 (fun tq5 htq5 => ?_)
  refine v_iload dX0_run_34 0 rfl ?_
  refine v_tiload (j := 17) htq5 dX0_run_36 rfl (by omega) (by decide) ?_
  refine v_is (y := 40) rfl ?_
  refine v_istore (lv2 := [(6, .int 40), (5, .int 17), (0, .ref (g.1 + 18)), (1, .int 2), (2, .int 3), (3, .int xz), (4, .int (nI dz))]) dX0_run_37 (by decide) rfl ?_
  refine v_aload_n dX0_run_39 rfl 2 rfl ?_
  refine v_iload dX0_run_40 0 rfl ?_
  refine v_callVv (As := [.int 40]) (rest := []) lk_X0_41 (c_X0_note 40 rn (by omega) hre) dX0_run_42 rfl (ltn rfl) rfl rfl (Nat.le_of_ble_eq_true rfl) (by decide) ?_
  refine v_I (I2 := (ctr I rn [40])) rfl ?_
  refine v_iload dX0_run_45 6 rfl ?_
  refine v_iconst (v := 1) dX0_run_47 (by decide) ?_
  refine v_iadd dX0_run_48 ?_
  refine v_is (nx_add rfl rfl) ?_
  refine v_istore (lv2 := [(7, .int (nI (dz + 1))), (6, .int 40), (5, .int 17), (0, .ref (g.1 + 18)), (1, .int 2), (2, .int 3), (3, .int xz), (4, .int (nI dz))]) dX0_run_49 (by decide) rfl ?_
  refine v_iload dX0_run_51 1 rfl ?_
  refine v_look (off := 164) (tgt := 217) dX0_run_53 (by decide) (by decide) (by decide) ?_
  refine v_aload_n dX0_run_217 rfl 3 rfl ?_
  refine v_iconst (v := 2) dX0_run_218 (by decide) ?_
  refine v_iconst (v := 0) dX0_run_219 (by decide) ?_
  refine v_iload_n dX0_run_220 rfl 6 rfl ?_
  refine v_iload dX0_run_221 0 rfl ?_
  refine v_callVi (As := [.int 2, .int 0, .int xz, .int (nI (dz + 1))]) (rest := []) lk_X0_34 (c_run_2_0 (I := (ctr I rn [40])) xz (dz + 1) (rn := rn + ([40] : List Int32).length) (by omega) (by have h1 := knT_len (nI kk); have h2 := drT_le5 (nI kk); simp only [List.length_cons, List.length_nil, List.length_append]; omega) (ctr_0 [40] I rn hre) nu va ((ctr_18 [40] I rn _ (by decide)).trans hnu) ((ctr_18 [40] I rn _ (by decide)).trans hva) kk hk7 ((ctr_18 [40] I rn _ (by decide)).trans hkk)) dX0_run_223 rfl (ltn rfl) rfl rfl (Nat.le_of_ble_eq_true rfl) (by decide) ?_
  refine v_I (I2 := (ctr I rn ([40] ++ (12 :: drT (nI kk))))) (ctr_app _ _ _ _) ?_
  refine v_aload_n dX0_run_226 rfl 3 rfl ?_
  refine v_iconst (v := 1) dX0_run_227 (by decide) ?_
  refine v_aload_n dX0_run_228 rfl 3 rfl ?_
  refine v_get (v := .int ((ctr I rn ([40] ++ (12 :: drT (nI kk)))) 18 2)) fa_X0_28 dX0_run_229 rfl (by decide) (ltn rfl) rfl ?_
  refine v_is (y := nI kk) (by exact (ctr_18 _ _ _ _ (by decide)).trans hkk) ?_
  refine v_iconst (v := 1) dX0_run_232 (by decide) ?_
  refine v_iload dX0_run_233 0 rfl ?_
  refine v_callVi (As := [.int 1, .int (nI kk), .int 1, .int (nI (dz + 1))]) (rest := [.int (drV (nI kk) nu va xz * 2)]) lk_X0_34 (c_run1 (I := (ctr I rn ([40] ++ (12 :: drT (nI kk))))) 1 (dz + 1) (rn := rn + (([40] ++ (12 :: drT (nI kk))) : List Int32).length) (by omega) (by have h1 := knT_len (nI kk); have h2 := drT_le5 (nI kk); simp only [List.length_cons, List.length_nil, List.length_append]; omega) (ctr_0 ([40] ++ (12 :: drT (nI kk))) I rn hre) nu va ((ctr_18 ([40] ++ (12 :: drT (nI kk))) I rn _ (by decide)).trans hnu) ((ctr_18 ([40] ++ (12 :: drT (nI kk))) I rn _ (by decide)).trans hva) kk hk7 ((ctr_18 ([40] ++ (12 :: drT (nI kk))) I rn _ (by decide)).trans hkk)) dX0_run_235 rfl (ltn rfl) rfl rfl (Nat.le_of_ble_eq_true rfl) (by decide) ?_
  refine v_I (I2 := (ctr I rn (([40] ++ (12 :: drT (nI kk))) ++ (drT (nI kk))))) (ctr_app _ _ _ _) ?_
  refine v_iadd dX0_run_238 ?_
  exact v_iret hr dX0_run_239 (⟨congrArg (fun z => some (Value.int z)) rfl, (congrArg (ctr I rn) (show (([40] ++ (12 :: drT (nI kk))) ++ (drT (nI kk))) = (40 :: ((12 :: drT (nI kk)) ++ drT (nI kk))) from rfl)), rfl, rfl, rfl, rfl⟩)
set_option maxRecDepth 100000 in
set_option maxHeartbeats 1000000 in
theorem c_run_2_4b {g : Gl} {I : Ty} {L : TL} {na nt ni m : Nat} {nl : Nat → Nat} {rn : Nat} (xz : Int32) (dz : Nat) (hdz : dz ≤ 10) (hrn : rn + 60 ≤ 1000) (hre : I 18 0 = nI rn) (nu va : Int32) (hnu : I 18 1 = nu) (hva : I 18 3 = va) (kk : Nat) (hk7 : kk < 7) (hkk : I 18 2 = nI kk) : Ct g yX0_run cX0_run 8 (some .int) 7 0 0 [.ref (g.1 + 18), .int 2, .int 4, .int xz, .int (nI dz)] I L (RT na nt ni) (NT nl) (NB + m) (Ps (some (.int (drV (nI kk) nu va xz * 2))) (ctr I rn (12 :: drT (nI kk))) L (RT na nt ni) (NT nl) (NB + m)) := by
  refine ct_of (by decide +kernel) (Nat.le_of_ble_eq_true rfl) (fun F hnm hr => ?_)
  clear hnm
  show V g F cX0_run RX0 8 7 0 [(0, .ref (g.1 + 18)), (1, .int 2), (2, .int 4), (3, .int xz), (4, .int (nI dz))] [] I L (RT na nt ni) (NT nl) (NB + m) 0 0
  refine v_bipush (v := 7) dX0_run_0 (by decide) ?_
  refine v_iload_n dX0_run_2 rfl 1 rfl ?_
  refine v_imul dX0_run_3 ?_
  refine v_is (y := 14) (by decide) ?_
  refine v_iload_n dX0_run_4 rfl 2 rfl ?_
  refine v_iadd dX0_run_5 ?_
  refine v_is (y := 18) (by decide) ?_
  refine v_istore (lv2 := [(5, .int 18), (0, .ref (g.1 + 18)), (1, .int 2), (2, .int 4), (3, .int xz), (4, .int (nI dz))]) dX0_run_6 (by decide) rfl ?_
  refine v_iload dX0_run_8 5 rfl ?_
  refine v_bipush (v := 20) dX0_run_10 (by decide) ?_
  refine v_icmp_gtN (a := dz) (b := 20) (tgt := 29) dX0_run_12 (by decide) rfl rfl (by omega) (by omega) (fun h => by exfalso; omega) (fun h1 => ?_)
  refine v_iload dX0_run_15 0 rfl ?_
  refine v_if_lt (tgt := 29) dX0_run_17 (by decide) (fun h2 => by first | exact absurd h2 (by decide) | exact absurd (by decide) h2) (fun _ => ?_)
  refine v_iload dX0_run_20 0 rfl ?_
  refine v_getSBODIES uf_X0_38 dX0_run_22 (fun tq3 htq3 => ?_)
  refine v_tlen htq3 dX0_run_25 ?_
  refine v_icmp_lt (tgt := 31) dX0_run_26 (by decide) (fun _ => ?_) (fun h4 => by first | exact absurd h4 (by decide) | exact absurd (by decide) h4)
  refine v_getSBODIES uf_X0_38 dX0_run_31 (fun tq5 htq5 => ?_)
  refine v_iload dX0_run_34 0 rfl ?_
  refine v_tiload (j := 18) htq5 dX0_run_36 rfl (by omega) (by decide) ?_
  refine v_is (y := 12) rfl ?_
  refine v_istore (lv2 := [(6, .int 12), (5, .int 18), (0, .ref (g.1 + 18)), (1, .int 2), (2, .int 4), (3, .int xz), (4, .int (nI dz))]) dX0_run_37 (by decide) rfl ?_
  refine v_aload_n dX0_run_39 rfl 2 rfl ?_
  refine v_iload dX0_run_40 0 rfl ?_
  refine v_callVv (As := [.int 12]) (rest := []) lk_X0_41 (c_X0_note 12 rn (by omega) hre) dX0_run_42 rfl (ltn rfl) rfl rfl (Nat.le_of_ble_eq_true rfl) (by decide) ?_
  refine v_I (I2 := (ctr I rn [12])) rfl ?_
  refine v_iload dX0_run_45 6 rfl ?_
  refine v_iconst (v := 1) dX0_run_47 (by decide) ?_
  refine v_iadd dX0_run_48 ?_
  refine v_is (nx_add rfl rfl) ?_
  refine v_istore (lv2 := [(7, .int (nI (dz + 1))), (6, .int 12), (5, .int 18), (0, .ref (g.1 + 18)), (1, .int 2), (2, .int 4), (3, .int xz), (4, .int (nI dz))]) dX0_run_49 (by decide) rfl ?_
  refine v_iload dX0_run_51 1 rfl ?_
  refine v_look (off := 124) (tgt := 177) dX0_run_53 (by decide) (by decide) (by decide) ?_
  refine v_aload_n dX0_run_177 rfl 3 rfl ?_
  refine v_iconst (v := 1) dX0_run_178 (by decide) ?_
  refine v_aload_n dX0_run_179 rfl 3 rfl ?_
  refine v_get (v := .int ((ctr I rn [12]) 18 2)) fa_X0_28 dX0_run_180 rfl (by decide) (ltn rfl) rfl ?_
  refine v_is (y := nI kk) (by exact (ctr_18 _ _ _ _ (by decide)).trans hkk) ?_
  refine v_iload_n dX0_run_183 rfl 6 rfl ?_
  refine v_iload dX0_run_184 0 rfl ?_
  refine v_callVi (As := [.int 1, .int (nI kk), .int xz, .int (nI (dz + 1))]) (rest := []) lk_X0_34 (c_run1 (I := (ctr I rn [12])) xz (dz + 1) (rn := rn + ([12] : List Int32).length) (by omega) (by have h1 := knT_len (nI kk); have h2 := drT_le5 (nI kk); simp only [List.length_cons, List.length_nil, List.length_append]; omega) (ctr_0 [12] I rn hre) nu va ((ctr_18 [12] I rn _ (by decide)).trans hnu) ((ctr_18 [12] I rn _ (by decide)).trans hva) kk hk7 ((ctr_18 [12] I rn _ (by decide)).trans hkk)) dX0_run_186 rfl (ltn rfl) rfl rfl (Nat.le_of_ble_eq_true rfl) (by decide) ?_
  refine v_I (I2 := (ctr I rn ([12] ++ (drT (nI kk))))) (ctr_app _ _ _ _) ?_
  refine v_iconst (v := 2) dX0_run_189 (by decide) ?_
  refine v_imul dX0_run_190 ?_
  exact v_iret hr dX0_run_191 (⟨congrArg (fun z => some (Value.int z)) rfl, (congrArg (ctr I rn) (show ([12] ++ (drT (nI kk))) = (12 :: drT (nI kk)) from rfl)), rfl, rfl, rfl, rfl⟩)
set_option maxRecDepth 100000 in
set_option maxHeartbeats 1000000 in
theorem c_run_2_5b {g : Gl} {I : Ty} {L : TL} {na nt ni m : Nat} {nl : Nat → Nat} {rn : Nat} (xz : Int32) (dz : Nat) (hdz : dz ≤ 10) (hrn : rn + 60 ≤ 1000) (hre : I 18 0 = nI rn) (nu va : Int32) (hnu : I 18 1 = nu) (hva : I 18 3 = va) (kk : Nat) (hk7 : kk < 7) (hkk : I 18 2 = nI kk) : Ct g yX0_run cX0_run 8 (some .int) 7 0 0 [.ref (g.1 + 18), .int 2, .int 5, .int xz, .int (nI dz)] I L (RT na nt ni) (NT nl) (NB + m) (Ps (some (.int (drV (nI kk) nu va (xz - nu) * 2))) (ctr I rn (60 :: (12 :: drT (nI kk)))) L (RT na nt ni) (NT nl) (NB + m)) := by
  refine ct_of (by decide +kernel) (Nat.le_of_ble_eq_true rfl) (fun F hnm hr => ?_)
  clear hnm
  show V g F cX0_run RX0 8 7 0 [(0, .ref (g.1 + 18)), (1, .int 2), (2, .int 5), (3, .int xz), (4, .int (nI dz))] [] I L (RT na nt ni) (NT nl) (NB + m) 0 0
  refine v_bipush (v := 7) dX0_run_0 (by decide) ?_
  refine v_iload_n dX0_run_2 rfl 1 rfl ?_
  refine v_imul dX0_run_3 ?_
  refine v_is (y := 14) (by decide) ?_
  refine v_iload_n dX0_run_4 rfl 2 rfl ?_
  refine v_iadd dX0_run_5 ?_
  refine v_is (y := 19) (by decide) ?_
  refine v_istore (lv2 := [(5, .int 19), (0, .ref (g.1 + 18)), (1, .int 2), (2, .int 5), (3, .int xz), (4, .int (nI dz))]) dX0_run_6 (by decide) rfl ?_
  refine v_iload dX0_run_8 5 rfl ?_
  refine v_bipush (v := 20) dX0_run_10 (by decide) ?_
  refine v_icmp_gtN (a := dz) (b := 20) (tgt := 29) dX0_run_12 (by decide) rfl rfl (by omega) (by omega) (fun h => by exfalso; omega) (fun h1 => ?_)
  refine v_iload dX0_run_15 0 rfl ?_
  refine v_if_lt (tgt := 29) dX0_run_17 (by decide) (fun h2 => by first | exact absurd h2 (by decide) | exact absurd (by decide) h2) (fun _ => ?_)
  refine v_iload dX0_run_20 0 rfl ?_
  refine v_getSBODIES uf_X0_38 dX0_run_22 (fun tq3 htq3 => ?_)
  refine v_tlen htq3 dX0_run_25 ?_
  refine v_icmp_lt (tgt := 31) dX0_run_26 (by decide) (fun _ => ?_) (fun h4 => by first | exact absurd h4 (by decide) | exact absurd (by decide) h4)
  refine v_getSBODIES uf_X0_38 dX0_run_31 (fun tq5 htq5 => ?_)
  refine v_iload dX0_run_34 0 rfl ?_
  refine v_tiload (j := 19) htq5 dX0_run_36 rfl (by omega) (by decide) ?_
  refine v_is (y := 60) rfl ?_
  refine v_istore (lv2 := [(6, .int 60), (5, .int 19), (0, .ref (g.1 + 18)), (1, .int 2), (2, .int 5), (3, .int xz), (4, .int (nI dz))]) dX0_run_37 (by decide) rfl ?_
  refine v_aload_n dX0_run_39 rfl 2 rfl ?_
  refine v_iload dX0_run_40 0 rfl ?_
  refine v_callVv (As := [.int 60]) (rest := []) lk_X0_41 (c_X0_note 60 rn (by omega) hre) dX0_run_42 rfl (ltn rfl) rfl rfl (Nat.le_of_ble_eq_true rfl) (by decide) ?_
  refine v_I (I2 := (ctr I rn [60])) rfl ?_
  refine v_iload dX0_run_45 6 rfl ?_
  refine v_iconst (v := 1) dX0_run_47 (by decide) ?_
  refine v_iadd dX0_run_48 ?_
  refine v_is (nx_add rfl rfl) ?_
  refine v_istore (lv2 := [(7, .int (nI (dz + 1))), (6, .int 60), (5, .int 19), (0, .ref (g.1 + 18)), (1, .int 2), (2, .int 5), (3, .int xz), (4, .int (nI dz))]) dX0_run_49 (by decide) rfl ?_
  refine v_iload dX0_run_51 1 rfl ?_
  refine v_look (off := 210) (tgt := 263) dX0_run_53 (by decide) (by decide) (by decide) ?_
  refine v_aload_n dX0_run_263 rfl 3 rfl ?_
  refine v_iconst (v := 2) dX0_run_264 (by decide) ?_
  refine v_iconst (v := 2) dX0_run_265 (by decide) ?_
  refine v_iload_n dX0_run_266 rfl 6 rfl ?_
  refine v_aload_n dX0_run_267 rfl 3 rfl ?_
  refine v_get (v := .int ((ctr I rn [60]) 18 1)) fa_X0_25 dX0_run_268 rfl (by decide) (ltn rfl) rfl ?_
  refine v_is (y := nu) (by exact (ctr_18 _ _ _ _ (by decide)).trans hnu) ?_
  refine v_isub dX0_run_271 ?_
  refine v_iload dX0_run_272 0 rfl ?_
  refine v_callVi (As := [.int 2, .int 2, .int (xz - nu), .int (nI (dz + 1))]) (rest := []) lk_X0_34 (c_run_2_2 (I := (ctr I rn [60])) (xz - nu) (dz + 1) (rn := rn + ([60] : List Int32).length) (by omega) (by have h1 := knT_len (nI kk); have h2 := drT_le5 (nI kk); simp only [List.length_cons, List.length_nil, List.length_append]; omega) (ctr_0 [60] I rn hre) nu va ((ctr_18 [60] I rn _ (by decide)).trans hnu) ((ctr_18 [60] I rn _ (by decide)).trans hva) kk hk7 ((ctr_18 [60] I rn _ (by decide)).trans hkk)) dX0_run_274 rfl (ltn rfl) rfl rfl (Nat.le_of_ble_eq_true rfl) (by decide) ?_
  refine v_I (I2 := (ctr I rn ([60] ++ (12 :: drT (nI kk))))) (ctr_app _ _ _ _) ?_
  exact v_iret hr dX0_run_277 (⟨congrArg (fun z => some (Value.int z)) rfl, (congrArg (ctr I rn) (show ([60] ++ (12 :: drT (nI kk))) = (60 :: (12 :: drT (nI kk))) from rfl)), rfl, rfl, rfl, rfl⟩)
set_option maxRecDepth 100000 in
set_option maxHeartbeats 1000000 in
theorem c_run_2_6b {g : Gl} {I : Ty} {L : TL} {na nt ni m : Nat} {nl : Nat → Nat} {rn : Nat} (xz : Int32) (dz : Nat) (hdz : dz ≤ 10) (hrn : rn + 60 ≤ 1000) (hre : I 18 0 = nI rn) (nu va : Int32) (hnu : I 18 1 = nu) (hva : I 18 3 = va) (kk : Nat) (hk7 : kk < 7) (hkk : I 18 2 = nI kk) : Ct g yX0_run cX0_run 8 (some .int) 7 0 0 [.ref (g.1 + 18), .int 2, .int 6, .int xz, .int (nI dz)] I L (RT na nt ni) (NT nl) (NB + m) (Ps (some (.int ((drV (nI kk) nu va xz * 2) + drV (nI kk) nu va 1))) (ctr I rn (40 :: ((12 :: drT (nI kk)) ++ drT (nI kk)))) L (RT na nt ni) (NT nl) (NB + m)) := by
  refine ct_of (by decide +kernel) (Nat.le_of_ble_eq_true rfl) (fun F hnm hr => ?_)
  clear hnm
  show V g F cX0_run RX0 8 7 0 [(0, .ref (g.1 + 18)), (1, .int 2), (2, .int 6), (3, .int xz), (4, .int (nI dz))] [] I L (RT na nt ni) (NT nl) (NB + m) 0 0
  refine v_bipush (v := 7) dX0_run_0 (by decide) ?_
  refine v_iload_n dX0_run_2 rfl 1 rfl ?_
  refine v_imul dX0_run_3 ?_
  refine v_is (y := 14) (by decide) ?_
  refine v_iload_n dX0_run_4 rfl 2 rfl ?_
  refine v_iadd dX0_run_5 ?_
  refine v_is (y := 20) (by decide) ?_
  refine v_istore (lv2 := [(5, .int 20), (0, .ref (g.1 + 18)), (1, .int 2), (2, .int 6), (3, .int xz), (4, .int (nI dz))]) dX0_run_6 (by decide) rfl ?_
  refine v_iload dX0_run_8 5 rfl ?_
  refine v_bipush (v := 20) dX0_run_10 (by decide) ?_
  refine v_icmp_gtN (a := dz) (b := 20) (tgt := 29) dX0_run_12 (by decide) rfl rfl (by omega) (by omega) (fun h => by exfalso; omega) (fun h1 => ?_)
  refine v_iload dX0_run_15 0 rfl ?_
  refine v_if_lt (tgt := 29) dX0_run_17 (by decide) (fun h2 => by first | exact absurd h2 (by decide) | exact absurd (by decide) h2) (fun _ => ?_)
  refine v_iload dX0_run_20 0 rfl ?_
  refine v_getSBODIES uf_X0_38 dX0_run_22 (fun tq3 htq3 => ?_)
  refine v_tlen htq3 dX0_run_25 ?_
  refine v_icmp_lt (tgt := 31) dX0_run_26 (by decide) (fun _ => ?_) (fun h4 => by first | exact absurd h4 (by decide) | exact absurd (by decide) h4)
  refine v_getSBODIES uf_X0_38 dX0_run_31 (fun tq5 htq5 => ?_)
  refine v_iload dX0_run_34 0 rfl ?_
  refine v_tiload (j := 20) htq5 dX0_run_36 rfl (by omega) (by decide) ?_
  refine v_is (y := 40) rfl ?_
  refine v_istore (lv2 := [(6, .int 40), (5, .int 20), (0, .ref (g.1 + 18)), (1, .int 2), (2, .int 6), (3, .int xz), (4, .int (nI dz))]) dX0_run_37 (by decide) rfl ?_
  refine v_aload_n dX0_run_39 rfl 2 rfl ?_
  refine v_iload dX0_run_40 0 rfl ?_
  refine v_callVv (As := [.int 40]) (rest := []) lk_X0_41 (c_X0_note 40 rn (by omega) hre) dX0_run_42 rfl (ltn rfl) rfl rfl (Nat.le_of_ble_eq_true rfl) (by decide) ?_
  refine v_I (I2 := (ctr I rn [40])) rfl ?_
  refine v_iload dX0_run_45 6 rfl ?_
  refine v_iconst (v := 1) dX0_run_47 (by decide) ?_
  refine v_iadd dX0_run_48 ?_
  refine v_is (nx_add rfl rfl) ?_
  refine v_istore (lv2 := [(7, .int (nI (dz + 1))), (6, .int 40), (5, .int 20), (0, .ref (g.1 + 18)), (1, .int 2), (2, .int 6), (3, .int xz), (4, .int (nI dz))]) dX0_run_49 (by decide) rfl ?_
  refine v_iload dX0_run_51 1 rfl ?_
  refine v_look (off := 164) (tgt := 217) dX0_run_53 (by decide) (by decide) (by decide) ?_
  refine v_aload_n dX0_run_217 rfl 3 rfl ?_
  refine v_iconst (v := 2) dX0_run_218 (by decide) ?_
  refine v_iconst (v := 0) dX0_run_219 (by decide) ?_
  refine v_iload_n dX0_run_220 rfl 6 rfl ?_
  refine v_iload dX0_run_221 0 rfl ?_
  refine v_callVi (As := [.int 2, .int 0, .int xz, .int (nI (dz + 1))]) (rest := []) lk_X0_34 (c_run_2_0 (I := (ctr I rn [40])) xz (dz + 1) (rn := rn + ([40] : List Int32).length) (by omega) (by have h1 := knT_len (nI kk); have h2 := drT_le5 (nI kk); simp only [List.length_cons, List.length_nil, List.length_append]; omega) (ctr_0 [40] I rn hre) nu va ((ctr_18 [40] I rn _ (by decide)).trans hnu) ((ctr_18 [40] I rn _ (by decide)).trans hva) kk hk7 ((ctr_18 [40] I rn _ (by decide)).trans hkk)) dX0_run_223 rfl (ltn rfl) rfl rfl (Nat.le_of_ble_eq_true rfl) (by decide) ?_
  refine v_I (I2 := (ctr I rn ([40] ++ (12 :: drT (nI kk))))) (ctr_app _ _ _ _) ?_
  refine v_aload_n dX0_run_226 rfl 3 rfl ?_
  refine v_iconst (v := 1) dX0_run_227 (by decide) ?_
  refine v_aload_n dX0_run_228 rfl 3 rfl ?_
  refine v_get (v := .int ((ctr I rn ([40] ++ (12 :: drT (nI kk)))) 18 2)) fa_X0_28 dX0_run_229 rfl (by decide) (ltn rfl) rfl ?_
  refine v_is (y := nI kk) (by exact (ctr_18 _ _ _ _ (by decide)).trans hkk) ?_
  refine v_iconst (v := 1) dX0_run_232 (by decide) ?_
  refine v_iload dX0_run_233 0 rfl ?_
  refine v_callVi (As := [.int 1, .int (nI kk), .int 1, .int (nI (dz + 1))]) (rest := [.int (drV (nI kk) nu va xz * 2)]) lk_X0_34 (c_run1 (I := (ctr I rn ([40] ++ (12 :: drT (nI kk))))) 1 (dz + 1) (rn := rn + (([40] ++ (12 :: drT (nI kk))) : List Int32).length) (by omega) (by have h1 := knT_len (nI kk); have h2 := drT_le5 (nI kk); simp only [List.length_cons, List.length_nil, List.length_append]; omega) (ctr_0 ([40] ++ (12 :: drT (nI kk))) I rn hre) nu va ((ctr_18 ([40] ++ (12 :: drT (nI kk))) I rn _ (by decide)).trans hnu) ((ctr_18 ([40] ++ (12 :: drT (nI kk))) I rn _ (by decide)).trans hva) kk hk7 ((ctr_18 ([40] ++ (12 :: drT (nI kk))) I rn _ (by decide)).trans hkk)) dX0_run_235 rfl (ltn rfl) rfl rfl (Nat.le_of_ble_eq_true rfl) (by decide) ?_
  refine v_I (I2 := (ctr I rn (([40] ++ (12 :: drT (nI kk))) ++ (drT (nI kk))))) (ctr_app _ _ _ _) ?_
  refine v_iadd dX0_run_238 ?_
  exact v_iret hr dX0_run_239 (⟨congrArg (fun z => some (Value.int z)) rfl, (congrArg (ctr I rn) (show (([40] ++ (12 :: drT (nI kk))) ++ (drT (nI kk))) = (40 :: ((12 :: drT (nI kk)) ++ drT (nI kk))) from rfl)), rfl, rfl, rfl, rfl⟩)
theorem teV_k (nu va x : Int32) : (teV (nI 0) nu va x = (drV (nI 0) nu va x * 2) ∧ teT (nI 0) = (12 :: drT (nI 0))) ∧ (teV (nI 1) nu va x = (drV (nI 1) nu va x * 2) ∧ teT (nI 1) = (12 :: drT (nI 1))) ∧ (teV (nI 2) nu va x = (drV (nI 2) nu va x * 2) ∧ teT (nI 2) = (12 :: drT (nI 2))) ∧ (teV (nI 3) nu va x = ((drV (nI 3) nu va x * 2) + drV (nI 3) nu va 1) ∧ teT (nI 3) = (40 :: ((12 :: drT (nI 3)) ++ drT (nI 3)))) ∧ (teV (nI 4) nu va x = (drV (nI 4) nu va x * 2) ∧ teT (nI 4) = (12 :: drT (nI 4))) ∧ (teV (nI 5) nu va x = (drV (nI 5) nu va (x - nu) * 2) ∧ teT (nI 5) = (60 :: (12 :: drT (nI 5)))) ∧ (teV (nI 6) nu va x = ((drV (nI 6) nu va x * 2) + drV (nI 6) nu va 1) ∧ teT (nI 6) = (40 :: ((12 :: drT (nI 6)) ++ drT (nI 6)))) := by
  unfold teV teT ttV ttT
  refine ⟨⟨?_, ?_⟩, ⟨?_, ?_⟩, ⟨?_, ?_⟩, ⟨?_, ?_⟩, ⟨?_, ?_⟩, ⟨?_, ?_⟩, ⟨?_, ?_⟩⟩ <;> first | (rw [ifc_t (by decide)]; done) | (rw [ifc_f (by decide), ifc_t (by decide)]; done) | (rw [ifc_f (by decide), ifc_f (by decide)]; done)
theorem c_run2 {g : Gl} {I : Ty} {L : TL} {na nt ni m : Nat} {nl : Nat → Nat} {rn : Nat} (xz : Int32) (dz : Nat) (hdz : dz ≤ 10) (hrn : rn + 60 ≤ 1000) (hre : I 18 0 = nI rn) (nu va : Int32) (hnu : I 18 1 = nu) (hva : I 18 3 = va) (kk : Nat) (hk7 : kk < 7) (hkk : I 18 2 = nI kk) : Ct g yX0_run cX0_run 8 (some .int) 7 0 0 [.ref (g.1 + 18), .int 2, .int (nI kk), .int xz, .int (nI dz)] I L (RT na nt ni) (NT nl) (NB + m) (Ps (some (.int (teV (nI kk) nu va xz))) (ctr I rn (teT (nI kk))) L (RT na nt ni) (NT nl) (NB + m)) := by
  rcases (show kk = 0 ∨ kk = 1 ∨ kk = 2 ∨ kk = 3 ∨ kk = 4 ∨ kk = 5 ∨ kk = 6 by omega) with e | e | e | e | e | e | e <;> subst e
  · rw [(teV_k nu va xz).1.1, (teV_k nu va xz).1.2]; exact c_run_2_0b xz dz hdz hrn hre nu va hnu hva 0 hk7 hkk
  · rw [(teV_k nu va xz).2.1.1, (teV_k nu va xz).2.1.2]; exact c_run_2_1b xz dz hdz hrn hre nu va hnu hva 1 hk7 hkk
  · rw [(teV_k nu va xz).2.2.1.1, (teV_k nu va xz).2.2.1.2]; exact c_run_2_2b xz dz hdz hrn hre nu va hnu hva 2 hk7 hkk
  · rw [(teV_k nu va xz).2.2.2.1.1, (teV_k nu va xz).2.2.2.1.2]; exact c_run_2_3b xz dz hdz hrn hre nu va hnu hva 3 hk7 hkk
  · rw [(teV_k nu va xz).2.2.2.2.1.1, (teV_k nu va xz).2.2.2.2.1.2]; exact c_run_2_4b xz dz hdz hrn hre nu va hnu hva 4 hk7 hkk
  · rw [(teV_k nu va xz).2.2.2.2.2.1.1, (teV_k nu va xz).2.2.2.2.2.1.2]; exact c_run_2_5b xz dz hdz hrn hre nu va hnu hva 5 hk7 hkk
  · rw [(teV_k nu va xz).2.2.2.2.2.2.1, (teV_k nu va xz).2.2.2.2.2.2.2]; exact c_run_2_6b xz dz hdz hrn hre nu va hnu hva 6 hk7 hkk
