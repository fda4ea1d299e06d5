theorem knT_l (k : Int32) : (knT k).length = (knT k).length := rfl
theorem drT_le5 (k : Int32) : (drT k).length ≤ 6 := by
  have h := knT_len k
  unfold drT tdT
  by_cases h1 : k = 1
  · rw [ifc_t h1, List.length_cons, List.length_cons]; omega
  · rw [ifc_f h1]
    by_cases h2 : k = 4
    · rw [ifc_t h2, List.length_cons, List.length_cons, List.length_cons]; omega
    · rw [ifc_f h2]
      by_cases h3 : k = 6
      · rw [ifc_t h3, List.length_cons, List.length_append, List.length_cons]
        show _ + ([10] : List Int32).length + 1 ≤ 6
        rw [show ([10] : List Int32).length = 1 from rfl]; omega
      · rw [ifc_f h3, List.length_cons]; omega
set_option maxRecDepth 100000 in
set_option maxHeartbeats 1000000 in
theorem c_run_0_0 {g : Gl} {I : Ty} {L : TL} {na nt ni m : Nat} {nl : Nat → Nat} {rn : Nat} (xz : Int32) (dz : Nat) (hdz : dz ≤ 20) (hrn : rn + 5 ≤ 1000) (hre : I 18 0 = nI rn) (nu va : Int32) (hnu : I 18 1 = nu) (hva : I 18 3 = va) (kk : Nat) (hk7 : kk < 7) (hkk : I 18 2 = nI kk) : Ct g yX0_run cX0_run 8 (some .int) 1 0 0 [.ref (g.1 + 18), .int 0, .int 0, .int xz, .int (nI dz)] I L (RT na nt ni) (NT nl) (NB + m) (Ps (some (.int (xz + nu))) (ctr I rn [10]) L (RT na nt ni) (NT nl) (NB + m)) := by
  refine ct_of (by decide +kernel) (Nat.le_of_ble_eq_true rfl) (fun F hnm hr => ?_)
  clear hnm
  show V g F cX0_run RX0 8 1 0 [(0, .ref (g.1 + 18)), (1, .int 0), (2, .int 0), (3, .int xz), (4, .int (nI dz))] [] I L (RT na nt ni) (NT nl) (NB + m) 0 0
  refine v_bipush (v := 7) dX0_run_0 (by decide) ?_
  refine v_iload_n dX0_run_2 rfl 1 rfl ?_
  refine v_imul dX0_run_3 ?_
  refine v_is (y := 0) (by decide) ?_
  refine v_iload_n dX0_run_4 rfl 2 rfl ?_
  refine v_iadd dX0_run_5 ?_
  refine v_is (y := 0) (by decide) ?_
  refine v_istore (lv2 := [(5, .int 0), (0, .ref (g.1 + 18)), (1, .int 0), (2, .int 0), (3, .int xz), (4, .int (nI dz))]) dX0_run_6 (by decide) rfl ?_
  refine v_iload dX0_run_8 5 rfl ?_
  refine v_bipush (v := 20) dX0_run_10 (by decide) ?_
  refine v_icmp_gtN (a := dz) (b := 20) (tgt := 29) dX0_run_12 (by decide) rfl rfl (by omega) (by omega) (fun h => by exfalso; omega) (fun h1 => ?_)
  refine v_iload dX0_run_15 0 rfl ?_
  refine v_if_lt (tgt := 29) dX0_run_17 (by decide) (fun h2 => by first | exact absurd h2 (by decide) | exact absurd (by decide) h2) (fun _ => ?_)
  refine v_iload dX0_run_20 0 rfl ?_
  refine v_getSBODIES uf_X0_38 dX0_run_22 (fun tq3 htq3 => ?_)
  refine v_tlen htq3 dX0_run_25 ?_
  refine v_icmp_lt (tgt := 31) dX0_run_26 (by decide) (fun _ => ?_) (fun h4 => by first | exact absurd h4 (by decide) | exact absurd (by decide) h4)
  refine v_getSBODIES uf_X0_38 dX0_run_31 (fun tq5 htq5 => ?_)
  refine v_iload dX0_run_34 0 rfl ?_
  refine v_tiload (j := 0) htq5 dX0_run_36 rfl (by omega) (by decide) ?_
  refine v_is (y := 10) rfl ?_
  refine v_istore (lv2 := [(6, .int 10), (5, .int 0), (0, .ref (g.1 + 18)), (1, .int 0), (2, .int 0), (3, .int xz), (4, .int (nI dz))]) dX0_run_37 (by decide) rfl ?_
  refine v_aload_n dX0_run_39 rfl 2 rfl ?_
  refine v_iload dX0_run_40 0 rfl ?_
  refine v_callVv (As := [.int 10]) (rest := []) lk_X0_41 (c_X0_note 10 rn (by omega) hre) dX0_run_42 rfl (ltn rfl) rfl rfl (Nat.le_of_ble_eq_true rfl) (by decide) ?_
  refine v_I (I2 := (ctr I rn [10])) rfl ?_
  refine v_iload dX0_run_45 6 rfl ?_
  refine v_iconst (v := 1) dX0_run_47 (by decide) ?_
  refine v_iadd dX0_run_48 ?_
  refine v_is (nx_add rfl rfl) ?_
  refine v_istore (lv2 := [(7, .int (nI (dz + 1))), (6, .int 10), (5, .int 0), (0, .ref (g.1 + 18)), (1, .int 0), (2, .int 0), (3, .int xz), (4, .int (nI dz))]) dX0_run_49 (by decide) rfl ?_
  refine v_iload dX0_run_51 1 rfl ?_
  refine v_look (off := 99) (tgt := 152) dX0_run_53 (by decide) (by decide) (by decide) ?_
  refine v_iload_n dX0_run_152 rfl 6 rfl ?_
  refine v_aload_n dX0_run_153 rfl 3 rfl ?_
  refine v_get (v := .int ((ctr I rn [10]) 18 1)) fa_X0_25 dX0_run_154 rfl (by decide) (ltn rfl) rfl ?_
  refine v_is (y := nu) (by exact (ctr_18 _ _ _ _ (by decide)).trans hnu) ?_
  refine v_iadd dX0_run_157 ?_
  exact v_iret hr dX0_run_158 (⟨congrArg (fun z => some (Value.int z)) rfl, (congrArg (ctr I rn) (show [10] = [10] from rfl)), rfl, rfl, rfl, rfl⟩)
set_option maxRecDepth 100000 in
set_option maxHeartbeats 1000000 in
theorem c_run_0_1 {g : Gl} {I : Ty} {L : TL} {na nt ni m : Nat} {nl : Nat → Nat} {rn : Nat} (xz : Int32) (dz : Nat) (hdz : dz ≤ 20) (hrn : rn + 5 ≤ 1000) (hre : I 18 0 = nI rn) (nu va : Int32) (hnu : I 18 1 = nu) (hva : I 18 3 = va) (kk : Nat) (hk7 : kk < 7) (hkk : I 18 2 = nI kk) : Ct g yX0_run cX0_run 8 (some .int) 1 0 0 [.ref (g.1 + 18), .int 0, .int 1, .int xz, .int (nI dz)] I L (RT na nt ni) (NT nl) (NB + m) (Ps (some (.int (xz + nu))) (ctr I rn [10]) L (RT na nt ni) (NT nl) (NB + m)) := by
  refine ct_of (by decide +kernel) (Nat.le_of_ble_eq_true rfl) (fun F hnm hr => ?_)
  clear hnm
  show V g F cX0_run RX0 8 1 0 [(0, .ref (g.1 + 18)), (1, .int 0), (2, .int 1), (3, .int xz), (4, .int (nI dz))] [] I L (RT na nt ni) (NT nl) (NB + m) 0 0
  refine v_bipush (v := 7) dX0_run_0 (by decide) ?_
  refine v_iload_n dX0_run_2 rfl 1 rfl ?_
  refine v_imul dX0_run_3 ?_
  refine v_is (y := 0) (by decide) ?_
  refine v_iload_n dX0_run_4 rfl 2 rfl ?_
  refine v_iadd dX0_run_5 ?_
  refine v_is (y := 1) (by decide) ?_
  refine v_istore (lv2 := [(5, .int 1), (0, .ref (g.1 + 18)), (1, .int 0), (2, .int 1), (3, .int xz), (4, .int (nI dz))]) dX0_run_6 (by decide) rfl ?_
  refine v_iload dX0_run_8 5 rfl ?_
  refine v_bipush (v := 20) dX0_run_10 (by decide) ?_
  refine v_icmp_gtN (a := dz) (b := 20) (tgt := 29) dX0_run_12 (by decide) rfl rfl (by omega) (by omega) (fun h => by exfalso; omega) (fun h1 => ?_)
  refine v_iload dX0_run_15 0 rfl ?_
  refine v_if_lt (tgt := 29) dX0_run_17 (by decide) (fun h2 => by first | exact absurd h2 (by decide) | exact absurd (by decide) h2) (fun _ => ?_)
  refine v_iload dX0_run_20 0 rfl ?_
  refine v_getSBODIES uf_X0_38 dX0_run_22 (fun tq3 htq3 => ?_)
  refine v_tlen htq3 dX0_run_25 ?_
  refine v_icmp_lt (tgt := 31) dX0_run_26 (by decide) (fun _ => ?_) (fun h4 => by first | exact absurd h4 (by decide) | exact absurd (by decide) h4)
  refine v_getSBODIES uf_X0_38 dX0_run_31 (fun tq5 htq5 => ?_)
  refine v_iload dX0_run_34 0 rfl ?_
  refine v_tiload (j := 1) htq5 dX0_run_36 rfl (by omega) (by decide) ?_
  refine v_is (y := 10) rfl ?_
  refine v_istore (lv2 := [(6, .int 10), (5, .int 1), (0, .ref (g.1 + 18)), (1, .int 0), (2, .int 1), (3, .int xz), (4, .int (nI dz))]) dX0_run_37 (by decide) rfl ?_
  refine v_aload_n dX0_run_39 rfl 2 rfl ?_
  refine v_iload dX0_run_40 0 rfl ?_
  refine v_callVv (As := [.int 10]) (rest := []) lk_X0_41 (c_X0_note 10 rn (by omega) hre) dX0_run_42 rfl (ltn rfl) rfl rfl (Nat.le_of_ble_eq_true rfl) (by decide) ?_
  refine v_I (I2 := (ctr I rn [10])) rfl ?_
  refine v_iload dX0_run_45 6 rfl ?_
  refine v_iconst (v := 1) dX0_run_47 (by decide) ?_
  refine v_iadd dX0_run_48 ?_
  refine v_is (nx_add rfl rfl) ?_
  refine v_istore (lv2 := [(7, .int (nI (dz + 1))), (6, .int 10), (5, .int 1), (0, .ref (g.1 + 18)), (1, .int 0), (2, .int 1), (3, .int xz), (4, .int (nI dz))]) dX0_run_49 (by decide) rfl ?_
  refine v_iload dX0_run_51 1 rfl ?_
  refine v_look (off := 99) (tgt := 152) dX0_run_53 (by decide) (by decide) (by decide) ?_
  refine v_iload_n dX0_run_152 rfl 6 rfl ?_
  refine v_aload_n dX0_run_153 rfl 3 rfl ?_
  refine v_get (v := .int ((ctr I rn [10]) 18 1)) fa_X0_25 dX0_run_154 rfl (by decide) (ltn rfl) rfl ?_
  refine v_is (y := nu) (by exact (ctr_18 _ _ _ _ (by decide)).trans hnu) ?_
  refine v_iadd dX0_run_157 ?_
  exact v_iret hr dX0_run_158 (⟨congrArg (fun z => some (Value.int z)) rfl, (congrArg (ctr I rn) (show [10] = [10] from rfl)), rfl, rfl, rfl, rfl⟩)
set_option maxRecDepth 100000 in
set_option maxHeartbeats 1000000 in
theorem c_run_0_3 {g : Gl} {I : Ty} {L : TL} {na nt ni m : Nat} {nl : Nat → Nat} {rn : Nat} (xz : Int32) (dz : Nat) (hdz : dz ≤ 20) (hrn : rn + 5 ≤ 1000) (hre : I 18 0 = nI rn) (nu va : Int32) (hnu : I 18 1 = nu) (hva : I 18 3 = va) (kk : Nat) (hk7 : kk < 7) (hkk : I 18 2 = nI kk) : Ct g yX0_run cX0_run 8 (some .int) 1 0 0 [.ref (g.1 + 18), .int 0, .int 3, .int xz, .int (nI dz)] I L (RT na nt ni) (NT nl) (NB + m) (Ps (some (.int (xz + nu))) (ctr I rn [10]) L (RT na nt ni) (NT nl) (NB + m)) := by
  refine ct_of (by decide +kernel) (Nat.le_of_ble_eq_true rfl) (fun F hnm hr => ?_)
  clear hnm
  show V g F cX0_run RX0 8 1 0 [(0, .ref (g.1 + 18)), (1, .int 0), (2, .int 3), (3, .int xz), (4, .int (nI dz))] [] I L (RT na nt ni) (NT nl) (NB + m) 0 0
  refine v_bipush (v := 7) dX0_run_0 (by decide) ?_
  refine v_iload_n dX0_run_2 rfl 1 rfl ?_
  refine v_imul dX0_run_3 ?_
  refine v_is (y := 0) (by decide) ?_
  refine v_iload_n dX0_run_4 rfl 2 rfl ?_
  refine v_iadd dX0_run_5 ?_
  refine v_is (y := 3) (by decide) ?_
  refine v_istore (lv2 := [(5, .int 3), (0, .ref (g.1 + 18)), (1, .int 0), (2, .int 3), (3, .int xz), (4, .int (nI dz))]) dX0_run_6 (by decide) rfl ?_
  refine v_iload dX0_run_8 5 rfl ?_
  refine v_bipush (v := 20) dX0_run_10 (by decide) ?_
  refine v_icmp_gtN (a := dz) (b := 20) (tgt := 29) dX0_run_12 (by decide) rfl rfl (by omega) (by omega) (fun h => by exfalso; omega) (fun h1 => ?_)
  refine v_iload dX0_run_15 0 rfl ?_
  refine v_if_lt (tgt := 29) dX0_run_17 (by decide) (fun h2 => by first | exact absurd h2 (by decide) | exact absurd (by decide) h2) (fun _ => ?_)
  refine v_iload dX0_run_20 0 rfl ?_
  refine v_getSBODIES uf_X0_38 dX0_run_22 (fun tq3 htq3 => ?_)
  refine v_tlen htq3 dX0_run_25 ?_
  refine v_icmp_lt (tgt := 31) dX0_run_26 (by decide) (fun _ => ?_) (fun h4 => by first | exact absurd h4 (by decide) | exact absurd (by decide) h4)
  refine v_getSBODIES uf_X0_38 dX0_run_31 (fun tq5 htq5 => ?_)
  refine v_iload dX0_run_34 0 rfl ?_
  refine v_tiload (j := 3) htq5 dX0_run_36 rfl (by omega) (by decide) ?_
  refine v_is (y := 10) rfl ?_
  refine v_istore (lv2 := [(6, .int 10), (5, .int 3), (0, .ref (g.1 + 18)), (1, .int 0), (2, .int 3), (3, .int xz), (4, .int (nI dz))]) dX0_run_37 (by decide) rfl ?_
  refine v_aload_n dX0_run_39 rfl 2 rfl ?_
  refine v_iload dX0_run_40 0 rfl ?_
  refine v_callVv (As := [.int 10]) (rest := []) lk_X0_41 (c_X0_note 10 rn (by omega) hre) dX0_run_42 rfl (ltn rfl) rfl rfl (Nat.le_of_ble_eq_true rfl) (by decide) ?_
  refine v_I (I2 := (ctr I rn [10])) rfl ?_
  refine v_iload dX0_run_45 6 rfl ?_
  refine v_iconst (v := 1) dX0_run_47 (by decide) ?_
  refine v_iadd dX0_run_48 ?_
  refine v_is (nx_add rfl rfl) ?_
  refine v_istore (lv2 := [(7, .int (nI (dz + 1))), (6, .int 10), (5, .int 3), (0, .ref (g.1 + 18)), (1, .int 0), (2, .int 3), (3, .int xz), (4, .int (nI dz))]) dX0_run_49 (by decide) rfl ?_
  refine v_iload dX0_run_51 1 rfl ?_
  refine v_look (off := 99) (tgt := 152) dX0_run_53 (by decide) (by decide) (by decide) ?_
  refine v_iload_n dX0_run_152 rfl 6 rfl ?_
  refine v_aload_n dX0_run_153 rfl 3 rfl ?_
  refine v_get (v := .int ((ctr I rn [10]) 18 1)) fa_X0_25 dX0_run_154 rfl (by decide) (ltn rfl) rfl ?_
  refine v_is (y := nu) (by exact (ctr_18 _ _ _ _ (by decide)).trans hnu) ?_
  refine v_iadd dX0_run_157 ?_
  exact v_iret hr dX0_run_158 (⟨congrArg (fun z => some (Value.int z)) rfl, (congrArg (ctr I rn) (show [10] = [10] from rfl)), rfl, rfl, rfl, rfl⟩)
set_option maxRecDepth 100000 in
set_option maxHeartbeats 1000000 in
theorem c_run_0_0b {g : Gl} {I : Ty} {L : TL} {na nt ni m : Nat} {nl : Nat → Nat} {rn : Nat} (xz : Int32) (dz : Nat) (hdz : dz ≤ 18) (hrn : rn + 10 ≤ 1000) (hre : I 18 0 = nI rn) (nu va : Int32) (hnu : I 18 1 = nu) (hva : I 18 3 = va) (kk : Nat) (hk7 : kk < 7) (hkk : I 18 2 = nI kk) : Ct g yX0_run cX0_run 8 (some .int) 2 0 0 [.ref (g.1 + 18), .int 0, .int 0, .int xz, .int (nI dz)] I L (RT na nt ni) (NT nl) (NB + m) (Ps (some (.int (xz + nu))) (ctr I rn [10]) L (RT na nt ni) (NT nl) (NB + m)) := by
  refine ct_of (by decide +kernel) (Nat.le_of_ble_eq_true rfl) (fun F hnm hr => ?_)
  clear hnm
  show V g F cX0_run RX0 8 2 0 [(0, .ref (g.1 + 18)), (1, .int 0), (2, .int 0), (3, .int xz), (4, .int (nI dz))] [] I L (RT na nt ni) (NT nl) (NB + m) 0 0
  refine v_bipush (v := 7) dX0_run_0 (by decide) ?_
  refine v_iload_n dX0_run_2 rfl 1 rfl ?_
  refine v_imul dX0_run_3 ?_
  refine v_is (y := 0) (by decide) ?_
  refine v_iload_n dX0_run_4 rfl 2 rfl ?_
  refine v_iadd dX0_run_5 ?_
  refine v_is (y := 0) (by decide) ?_
  refine v_istore (lv2 := [(5, .int 0), (0, .ref (g.1 + 18)), (1, .int 0), (2, .int 0), (3, .int xz), (4, .int (nI dz))]) dX0_run_6 (by decide) rfl ?_
  refine v_iload dX0_run_8 5 rfl ?_
  refine v_bipush (v := 20) dX0_run_10 (by decide) ?_
  refine v_icmp_gtN (a := dz) (b := 20) (tgt := 29) dX0_run_12 (by decide) rfl rfl (by omega) (by omega) (fun h => by exfalso; omega) (fun h1 => ?_)
  refine v_iload dX0_run_15 0 rfl ?_
  refine v_if_lt (tgt := 29) dX0_run_17 (by decide) (fun h2 => by first | exact absurd h2 (by decide) | exact absurd (by decide) h2) (fun _ => ?_)
  refine v_iload dX0_run_20 0 rfl ?_
  refine v_getSBODIES uf_X0_38 dX0_run_22 (fun tq3 htq3 => ?_)
  refine v_tlen htq3 dX0_run_25 ?_
  refine v_icmp_lt (tgt := 31) dX0_run_26 (by decide) (fun _ => ?_) (fun h4 => by first | exact absurd h4 (by decide) | exact absurd (by decide) h4)
  refine v_getSBODIES uf_X0_38 dX0_run_31 (fun tq5 htq5 => ?_)
  refine v_iload dX0_run_34 0 rfl ?_
  refine v_tiload (j := 0) htq5 dX0_run_36 rfl (by omega) (by decide) ?_
  refine v_is (y := 10) rfl ?_
  refine v_istore (lv2 := [(6, .int 10), (5, .int 0), (0, .ref (g.1 + 18)), (1, .int 0), (2, .int 0), (3, .int xz), (4, .int (nI dz))]) dX0_run_37 (by decide) rfl ?_
  refine v_aload_n dX0_run_39 rfl 2 rfl ?_
  refine v_iload dX0_run_40 0 rfl ?_
  refine v_callVv (As := [.int 10]) (rest := []) lk_X0_41 (c_X0_note 10 rn (by omega) hre) dX0_run_42 rfl (ltn rfl) rfl rfl (Nat.le_of_ble_eq_true rfl) (by decide) ?_
  refine v_I (I2 := (ctr I rn [10])) rfl ?_
  refine v_iload dX0_run_45 6 rfl ?_
  refine v_iconst (v := 1) dX0_run_47 (by decide) ?_
  refine v_iadd dX0_run_48 ?_
  refine v_is (nx_add rfl rfl) ?_
  refine v_istore (lv2 := [(7, .int (nI (dz + 1))), (6, .int 10), (5, .int 0), (0, .ref (g.1 + 18)), (1, .int 0), (2, .int 0), (3, .int xz), (4, .int (nI dz))]) dX0_run_49 (by decide) rfl ?_
  refine v_iload dX0_run_51 1 rfl ?_
  refine v_look (off := 99) (tgt := 152) dX0_run_53 (by decide) (by decide) (by decide) ?_
  refine v_iload_n dX0_run_152 rfl 6 rfl ?_
  refine v_aload_n dX0_run_153 rfl 3 rfl ?_
  refine v_get (v := .int ((ctr I rn [10]) 18 1)) fa_X0_25 dX0_run_154 rfl (by decide) (ltn rfl) rfl ?_
  refine v_is (y := nu) (by exact (ctr_18 _ _ _ _ (by decide)).trans hnu) ?_
  refine v_iadd dX0_run_157 ?_
  exact v_iret hr dX0_run_158 (⟨congrArg (fun z => some (Value.int z)) rfl, (congrArg (ctr I rn) (show [10] = [10] from rfl)), rfl, rfl, rfl, rfl⟩)
set_option maxRecDepth 100000 in
set_option maxHeartbeats 1000000 in
theorem c_run_0_1b {g : Gl} {I : Ty} {L : TL} {na nt ni m : Nat} {nl : Nat → Nat} {rn : Nat} (xz : Int32) (dz : Nat) (hdz : dz ≤ 18) (hrn : rn + 10 ≤ 1000) (hre : I 18 0 = nI rn) (nu va : Int32) (hnu : I 18 1 = nu) (hva : I 18 3 = va) (kk : Nat) (hk7 : kk < 7) (hkk : I 18 2 = nI kk) : Ct g yX0_run cX0_run 8 (some .int) 2 0 0 [.ref (g.1 + 18), .int 0, .int 1, .int xz, .int (nI dz)] I L (RT na nt ni) (NT nl) (NB + m) (Ps (some (.int (xz + nu))) (ctr I rn [10]) L (RT na nt ni) (NT nl) (NB + m)) := by
  refine ct_of (by decide +kernel) (Nat.le_of_ble_eq_true rfl) (fun F hnm hr => ?_)
  clear hnm
  show V g F cX0_run RX0 8 2 0 [(0, .ref (g.1 + 18)), (1, .int 0), (2, .int 1), (3, .int xz), (4, .int (nI dz))] [] I L (RT na nt ni) (NT nl) (NB + m) 0 0
  refine v_bipush (v := 7) dX0_run_0 (by decide) ?_
  refine v_iload_n dX0_run_2 rfl 1 rfl ?_
  refine v_imul dX0_run_3 ?_
  refine v_is (y := 0) (by decide) ?_
  refine v_iload_n dX0_run_4 rfl 2 rfl ?_
  refine v_iadd dX0_run_5 ?_
  refine v_is (y := 1) (by decide) ?_
  refine v_istore (lv2 := [(5, .int 1), (0, .ref (g.1 + 18)), (1, .int 0), (2, .int 1), (3, .int xz), (4, .int (nI dz))]) dX0_run_6 (by decide) rfl ?_
  refine v_iload dX0_run_8 5 rfl ?_
  refine v_bipush (v := 20) dX0_run_10 (by decide) ?_
  refine v_icmp_gtN (a := dz) (b := 20) (tgt := 29) dX0_run_12 (by decide) rfl rfl (by omega) (by omega) (fun h => by exfalso; omega) (fun h1 => ?_)
  refine v_iload dX0_run_15 0 rfl ?_
  refine v_if_lt (tgt := 29) dX0_run_17 (by decide) (fun h2 => by first | exact absurd h2 (by decide) | exact absurd (by decide) h2) (fun _ => ?_)
  refine v_iload dX0_run_20 0 rfl ?_
  refine v_getSBODIES uf_X0_38 dX0_run_22 (fun tq3 htq3 => ?_)
  refine v_tlen htq3 dX0_run_25 ?_
  refine v_icmp_lt (tgt := 31) dX0_run_26 (by decide) (fun _ => ?_) (fun h4 => by first | exact absurd h4 (by decide) | exact absurd (by decide) h4)
  refine v_getSBODIES uf_X0_38 dX0_run_31 (fun tq5 htq5 => ?_)
  refine v_iload dX0_run_34 0 rfl ?_
  refine v_tiload (j := 1) htq5 dX0_run_36 rfl (by omega) (by decide) ?_
  refine v_is (y := 10) rfl ?_
  refine v_istore (lv2 := [(6, .int 10), (5, .int 1), (0, .ref (g.1 + 18)), (1, .int 0), (2, .int 1), (3, .int xz), (4, .int (nI dz))]) dX0_run_37 (by decide) rfl ?_
  refine v_aload_n dX0_run_39 rfl 2 rfl ?_
  refine v_iload dX0_run_40 0 rfl ?_
  refine v_callVv (As := [.int 10]) (rest := []) lk_X0_41 (c_X0_note 10 rn (by omega) hre) dX0_run_42 rfl (ltn rfl) rfl rfl (Nat.le_of_ble_eq_true rfl) (by decide) ?_
  refine v_I (I2 := (ctr I rn [10])) rfl ?_
  refine v_iload dX0_run_45 6 rfl ?_
  refine v_iconst (v := 1) dX0_run_47 (by decide) ?_
  refine v_iadd dX0_run_48 ?_
  refine v_is (nx_add rfl rfl) ?_
  refine v_istore (lv2 := [(7, .int (nI (dz + 1))), (6, .int 10), (5, .int 1), (0, .ref (g.1 + 18)), (1, .int 0), (2, .int 1), (3, .int xz), (4, .int (nI dz))]) dX0_run_49 (by decide) rfl ?_
  refine v_iload dX0_run_51 1 rfl ?_
  refine v_look (off := 99) (tgt := 152) dX0_run_53 (by decide) (by decide) (by decide) ?_
  refine v_iload_n dX0_run_152 rfl 6 rfl ?_
  refine v_aload_n dX0_run_153 rfl 3 rfl ?_
  refine v_get (v := .int ((ctr I rn [10]) 18 1)) fa_X0_25 dX0_run_154 rfl (by decide) (ltn rfl) rfl ?_
  refine v_is (y := nu) (by exact (ctr_18 _ _ _ _ (by decide)).trans hnu) ?_
  refine v_iadd dX0_run_157 ?_
  exact v_iret hr dX0_run_158 (⟨congrArg (fun z => some (Value.int z)) rfl, (congrArg (ctr I rn) (show [10] = [10] from rfl)), rfl, rfl, rfl, rfl⟩)
set_option maxRecDepth 100000 in
set_option maxHeartbeats 1000000 in
theorem c_run_0_2b {g : Gl} {I : Ty} {L : TL} {na nt ni m : Nat} {nl : Nat → Nat} {rn : Nat} (xz : Int32) (dz : Nat) (hdz : dz ≤ 18) (hrn : rn + 10 ≤ 1000) (hre : I 18 0 = nI rn) (nu va : Int32) (hnu : I 18 1 = nu) (hva : I 18 3 = va) (kk : Nat) (hk7 : kk < 7) (hkk : I 18 2 = nI kk) : Ct g yX0_run cX0_run 8 (some .int) 2 0 0 [.ref (g.1 + 18), .int 0, .int 2, .int xz, .int (nI dz)] I L (RT na nt ni) (NT nl) (NB + m) (Ps (some (.int (xz * 3 + nu))) (ctr I rn [30, 10]) L (RT na nt ni) (NT nl) (NB + m)) := by
  refine ct_of (by decide +kernel) (Nat.le_of_ble_eq_true rfl) (fun F hnm hr => ?_)
  clear hnm
  show V g F cX0_run RX0 8 2 0 [(0, .ref (g.1 + 18)), (1, .int 0), (2, .int 2), (3, .int xz), (4, .int (nI dz))] [] I L (RT na nt ni) (NT nl) (NB + m) 0 0
  refine v_bipush (v := 7) dX0_run_0 (by decide) ?_
  refine v_iload_n dX0_run_2 rfl 1 rfl ?_
  refine v_imul dX0_run_3 ?_
  refine v_is (y := 0) (by decide) ?_
  refine v_iload_n dX0_run_4 rfl 2 rfl ?_
  refine v_iadd dX0_run_5 ?_
  refine v_is (y := 2) (by decide) ?_
  refine v_istore (lv2 := [(5, .int 2), (0, .ref (g.1 + 18)), (1, .int 0), (2, .int 2), (3, .int xz), (4, .int (nI dz))]) dX0_run_6 (by decide) rfl ?_
  refine v_iload dX0_run_8 5 rfl ?_
  refine v_bipush (v := 20) dX0_run_10 (by decide) ?_
  refine v_icmp_gtN (a := dz) (b := 20) (tgt := 29) dX0_run_12 (by decide) rfl rfl (by omega) (by omega) (fun h => by exfalso; omega) (fun h1 => ?_)
  refine v_iload dX0_run_15 0 rfl ?_
  refine v_if_lt (tgt := 29) dX0_run_17 (by decide) (fun h2 => by first | exact absurd h2 (by decide) | exact absurd (by decide) h2) (fun _ => ?_)
  refine v_iload dX0_run_20 0 rfl ?_
  refine v_getSBODIES uf_X0_38 dX0_run_22 (fun tq3 htq3 => ?_)
  refine v_tlen htq3 dX0_run_25 ?_
  refine v_icmp_lt (tgt := 31) dX0_run_26 (by decide) (fun _ => ?_) (fun h4 => by first | exact absurd h4 (by decide) | exact absurd (by decide) h4)
  refine v_getSBODIES uf_X0_38 dX0_run_31 (fun tq5 htq5 => ?_)
  refine v_iload dX0_run_34 0 rfl ?_
  refine v_tiload (j := 2) htq5 dX0_run_36 rfl (by omega) (by decide) ?_
  refine v_is (y := 30) rfl ?_
  refine v_istore (lv2 := [(6, .int 30), (5, .int 2), (0, .ref (g.1 + 18)), (1, .int 0), (2, .int 2), (3, .int xz), (4, .int (nI dz))]) dX0_run_37 (by decide) rfl ?_
  refine v_aload_n dX0_run_39 rfl 2 rfl ?_
  refine v_iload dX0_run_40 0 rfl ?_
  refine v_callVv (As := [.int 30]) (rest := []) lk_X0_41 (c_X0_note 30 rn (by omega) hre) dX0_run_42 rfl (ltn rfl) rfl rfl (Nat.le_of_ble_eq_true rfl) (by decide) ?_
  refine v_I (I2 := (ctr I rn [30])) rfl ?_
  refine v_iload dX0_run_45 6 rfl ?_
  refine v_iconst (v := 1) dX0_run_47 (by decide) ?_
  refine v_iadd dX0_run_48 ?_
  refine v_is (nx_add rfl rfl) ?_
  refine v_istore (lv2 := [(7, .int (nI (dz + 1))), (6, .int 30), (5, .int 2), (0, .ref (g.1 + 18)), (1, .int 0), (2, .int 2), (3, .int xz), (4, .int (nI dz))]) dX0_run_49 (by decide) rfl ?_
  refine v_iload dX0_run_51 1 rfl ?_
  refine v_look (off := 152) (tgt := 205) dX0_run_53 (by decide) (by decide) (by decide) ?_
  refine v_aload_n dX0_run_205 rfl 3 rfl ?_
  refine v_iconst (v := 0) dX0_run_206 (by decide) ?_
  refine v_iconst (v := 0) dX0_run_207 (by decide) ?_
  refine v_iload_n dX0_run_208 rfl 6 rfl ?_
  refine v_iconst (v := 3) dX0_run_209 (by decide) ?_
  refine v_imul dX0_run_210 ?_
  refine v_iload dX0_run_211 0 rfl ?_
  refine v_callVi (As := [.int 0, .int 0, .int (xz * 3), .int (nI (dz + 1))]) (rest := []) lk_X0_34 (c_run_0_0 (I := (ctr I rn [30])) (xz * 3) (dz + 1) (rn := rn + ([30] : List Int32).length) (by omega) (by have h1 := knT_len (nI kk); have h2 := drT_le5 (nI kk); simp only [List.length_cons, List.length_nil, List.length_append]; omega) (ctr_0 [30] I rn hre) nu va ((ctr_18 [30] I rn _ (by decide)).trans hnu) ((ctr_18 [30] I rn _ (by decide)).trans hva) kk hk7 ((ctr_18 [30] I rn _ (by decide)).trans hkk)) dX0_run_213 rfl (ltn rfl) rfl rfl (Nat.le_of_ble_eq_true rfl) (by decide) ?_
  refine v_I (I2 := (ctr I rn ([30] ++ [10]))) (ctr_app _ _ _ _) ?_
  exact v_iret hr dX0_run_216 (⟨congrArg (fun z => some (Value.int z)) rfl, (congrArg (ctr I rn) (show ([30] ++ [10]) = [30, 10] from rfl)), rfl, rfl, rfl, rfl⟩)
set_option maxRecDepth 100000 in
set_option maxHeartbeats 1000000 in
theorem c_run_0_3b {g : Gl} {I : Ty} {L : TL} {na nt ni m : Nat} {nl : Nat → Nat} {rn : Nat} (xz : Int32) (dz : Nat) (hdz : dz ≤ 18) (hrn : rn + 10 ≤ 1000) (hre : I 18 0 = nI rn) (nu va : Int32) (hnu : I 18 1 = nu) (hva : I 18 3 = va) (kk : Nat) (hk7 : kk < 7) (hkk : I 18 2 = nI kk) : Ct g yX0_run cX0_run 8 (some .int) 2 0 0 [.ref (g.1 + 18), .int 0, .int 3, .int xz, .int (nI dz)] I L (RT na nt ni) (NT nl) (NB + m) (Ps (some (.int (xz + nu))) (ctr I rn [10]) L (RT na nt ni) (NT nl) (NB + m)) := by
  refine ct_of (by decide +kernel) (Nat.le_of_ble_eq_true rfl) (fun F hnm hr => ?_)
  clear hnm
  show V g F cX0_run RX0 8 2 0 [(0, .ref (g.1 + 18)), (1, .int 0), (2, .int 3), (3, .int xz), (4, .int (nI dz))] [] I L (RT na nt ni) (NT nl) (NB + m) 0 0
  refine v_bipush (v := 7) dX0_run_0 (by decide) ?_
  refine v_iload_n dX0_run_2 rfl 1 rfl ?_
  refine v_imul dX0_run_3 ?_
  refine v_is (y := 0) (by decide) ?_
  refine v_iload_n dX0_run_4 rfl 2 rfl ?_
  refine v_iadd dX0_run_5 ?_
  refine v_is (y := 3) (by decide) ?_
  refine v_istore (lv2 := [(5, .int 3), (0, .ref (g.1 + 18)), (1, .int 0), (2, .int 3), (3, .int xz), (4, .int (nI dz))]) dX0_run_6 (by decide) rfl ?_
  refine v_iload dX0_run_8 5 rfl ?_
  refine v_bipush (v := 20) dX0_run_10 (by decide) ?_
  refine v_icmp_gtN (a := dz) (b := 20) (tgt := 29) dX0_run_12 (by decide) rfl rfl (by omega) (by omega) (fun h => by exfalso; omega) (fun h1 => ?_)
  refine v_iload dX0_run_15 0 rfl ?_
  refine v_if_lt (tgt := 29) dX0_run_17 (by decide) (fun h2 => by first | exact absurd h2 (by decide) | exact absurd (by decide) h2) (fun _ => ?_)
  refine v_iload dX0_run_20 0 rfl ?_
  refine v_getSBODIES uf_X0_38 dX0_run_22 (fun tq3 htq3 => ?_)
  refine v_tlen htq3 dX0_run_25 ?_
  refine v_icmp_lt (tgt := 31) dX0_run_26 (by decide) (fun _ => ?_) (fun h4 => by first | exact absurd h4 (by decide) | exact absurd (by decide) h4)
  refine v_getSBODIES uf_X0_38 dX0_run_31 (fun tq5 htq5 => ?_)
  refine v_iload dX0_run_34 0 rfl ?_
  refine v_tiload (j := 3) htq5 dX0_run_36 rfl (by omega) (by decide) ?_
  refine v_is (y := 10) rfl ?_
  refine v_istore (lv2 := [(6, .int 10), (5, .int 3), (0, .ref (g.1 + 18)), (1, .int 0), (2, .int 3), (3, .int xz), (4, .int (nI dz))]) dX0_run_37 (by decide) rfl ?_
  refine v_aload_n dX0_run_39 rfl 2 rfl ?_
  refine v_iload dX0_run_40 0 rfl ?_
  refine v_callVv (As := [.int 10]) (rest := []) lk_X0_41 (c_X0_note 10 rn (by omega) hre) dX0_run_42 rfl (ltn rfl) rfl rfl (Nat.le_of_ble_eq_true rfl) (by decide) ?_
  refine v_I (I2 := (ctr I rn [10])) rfl ?_
  refine v_iload dX0_run_45 6 rfl ?_
  refine v_iconst (v := 1) dX0_run_47 (by decide) ?_
  refine v_iadd dX0_run_48 ?_
  refine v_is (nx_add rfl rfl) ?_
  refine v_istore (lv2 := [(7, .int (nI (dz + 1))), (6, .int 10), (5, .int 3), (0, .ref (g.1 + 18)), (1, .int 0), (2, .int 3), (3, .int xz), (4, .int (nI dz))]) dX0_run_49 (by decide) rfl ?_
  refine v_iload dX0_run_51 1 rfl ?_
  refine v_look (off := 99) (tgt := 152) dX0_run_53 (by decide) (by decide) (by decide) ?_
  refine v_iload_n dX0_run_152 rfl 6 rfl ?_
  refine v_aload_n dX0_run_153 rfl 3 rfl ?_
  refine v_get (v := .int ((ctr I rn [10]) 18 1)) fa_X0_25 dX0_run_154 rfl (by decide) (ltn rfl) rfl ?_
  refine v_is (y := nu) (by exact (ctr_18 _ _ _ _ (by decide)).trans hnu) ?_
  refine v_iadd dX0_run_157 ?_
  exact v_iret hr dX0_run_158 (⟨congrArg (fun z => some (Value.int z)) rfl, (congrArg (ctr I rn) (show [10] = [10] from rfl)), rfl, rfl, rfl, rfl⟩)
set_option maxRecDepth 100000 in
set_option maxHeartbeats 1000000 in
theorem c_run_0_4b {g : Gl} {I : Ty} {L : TL} {na nt ni m : Nat} {nl : Nat → Nat} {rn : Nat} (xz : Int32) (dz : Nat) (hdz : dz ≤ 18) (hrn : rn + 10 ≤ 1000) (hre : I 18 0 = nI rn) (nu va : Int32) (hnu : I 18 1 = nu) (hva : I 18 3 = va) (kk : Nat) (hk7 : kk < 7) (hkk : I 18 2 = nI kk) : Ct g yX0_run cX0_run 8 (some .int) 2 0 0 [.ref (g.1 + 18), .int 0, .int 4, .int xz, .int (nI dz)] I L (RT na nt ni) (NT nl) (NB + m) (Ps (some (.int (-(xz + nu)))) (ctr I rn [50, 10]) L (RT na nt ni) (NT nl) (NB + m)) := by
  refine ct_of (by decide +kernel) (Nat.le_of_ble_eq_true rfl) (fun F hnm hr => ?_)
  clear hnm
  show V g F cX0_run RX0 8 2 0 [(0, .ref (g.1 + 18)), (1, .int 0), (2, .int 4), (3, .int xz), (4, .int (nI dz))] [] I L (RT na nt ni) (NT nl) (NB + m) 0 0
  refine v_bipush (v := 7) dX0_run_0 (by decide) ?_
  refine v_iload_n dX0_run_2 rfl 1 rfl ?_
  refine v_imul dX0_run_3 ?_
  refine v_is (y := 0) (by decide) ?_
  refine v_iload_n dX0_run_4 rfl 2 rfl ?_
  refine v_iadd dX0_run_5 ?_
  refine v_is (y := 4) (by decide) ?_
  refine v_istore (lv2 := [(5, .int 4), (0, .ref (g.1 + 18)), (1, .int 0), (2, .int 4), (3, .int xz), (4, .int (nI dz))]) dX0_run_6 (by decide) rfl ?_
  refine v_iload dX0_run_8 5 rfl ?_
  refine v_bipush (v := 20) dX0_run_10 (by decide) ?_
  refine v_icmp_gtN (a := dz) (b := 20) (tgt := 29) dX0_run_12 (by decide) rfl rfl (by omega) (by omega) (fun h => by exfalso; omega) (fun h1 => ?_)
  refine v_iload dX0_run_15 0 rfl ?_
  refine v_if_lt (tgt := 29) dX0_run_17 (by decide) (fun h2 => by first | exact absurd h2 (by decide) | exact absurd (by decide) h2) (fun _ => ?_)
  refine v_iload dX0_run_20 0 rfl ?_
  refine v_getSBODIES uf_X0_38 dX0_run_22 (fun tq3 htq3 => ?_)
  refine v_tlen htq3 dX0_run_25 ?_
  refine v_icmp_lt (tgt := 31) dX0_run_26 (by decide) (fun _ => ?_) (fun h4 => by first | exact absurd h4 (by decide) | exact absurd (by decide) h4)
  refine v_getSBODIES uf_X0_38 dX0_run_31 (fun tq5 htq5 => ?_)
  refine v_iload dX0_run_34 0 rfl ?_
  refine v_tiload (j := 4) htq5 dX0_run_36 rfl (by omega) (by decide) ?_
  refine v_is (y := 50) rfl ?_
  refine v_istore (lv2 := [(6, .int 50), (5, .int 4), (0, .ref (g.1 + 18)), (1, .int 0), (2, .int 4), (3, .int xz), (4, .int (nI dz))]) dX0_run_37 (by decide) rfl ?_
  refine v_aload_n dX0_run_39 rfl 2 rfl ?_
  refine v_iload dX0_run_40 0 rfl ?_
  refine v_callVv (As := [.int 50]) (rest := []) lk_X0_41 (c_X0_note 50 rn (by omega) hre) dX0_run_42 rfl (ltn rfl) rfl rfl (Nat.le_of_ble_eq_true rfl) (by decide) ?_
  refine v_I (I2 := (ctr I rn [50])) rfl ?_
  refine v_iload dX0_run_45 6 rfl ?_
  refine v_iconst (v := 1) dX0_run_47 (by decide) ?_
  refine v_iadd dX0_run_48 ?_
  refine v_is (nx_add rfl rfl) ?_
  refine v_istore (lv2 := [(7, .int (nI (dz + 1))), (6, .int 50), (5, .int 4), (0, .ref (g.1 + 18)), (1, .int 0), (2, .int 4), (3, .int xz), (4, .int (nI dz))]) dX0_run_49 (by decide) rfl ?_
  refine v_iload dX0_run_51 1 rfl ?_
  refine v_look (off := 187) (tgt := 240) dX0_run_53 (by decide) (by decide) (by decide) ?_
  refine v_aload_n dX0_run_240 rfl 3 rfl ?_
  refine v_iconst (v := 0) dX0_run_241 (by decide) ?_
  refine v_iconst (v := 1) dX0_run_242 (by decide) ?_
  refine v_iload_n dX0_run_243 rfl 6 rfl ?_
  refine v_iload dX0_run_244 0 rfl ?_
  refine v_callVi (As := [.int 0, .int 1, .int xz, .int (nI (dz + 1))]) (rest := []) lk_X0_34 (c_run_0_1 (I := (ctr I rn [50])) xz (dz + 1) (rn := rn + ([50] : List Int32).length) (by omega) (by have h1 := knT_len (nI kk); have h2 := drT_le5 (nI kk); simp only [List.length_cons, List.length_nil, List.length_append]; omega) (ctr_0 [50] I rn hre) nu va ((ctr_18 [50] I rn _ (by decide)).trans hnu) ((ctr_18 [50] I rn _ (by decide)).trans hva) kk hk7 ((ctr_18 [50] I rn _ (by decide)).trans hkk)) dX0_run_246 rfl (ltn rfl) rfl rfl (Nat.le_of_ble_eq_true rfl) (by decide) ?_
  refine v_I (I2 := (ctr I rn ([50] ++ [10]))) (ctr_app _ _ _ _) ?_
  refine v_ineg dX0_run_249 ?_
  exact v_iret hr dX0_run_250 (⟨congrArg (fun z => some (Value.int z)) rfl, (congrArg (ctr I rn) (show ([50] ++ [10]) = [50, 10] from rfl)), rfl, rfl, rfl, rfl⟩)
set_option maxRecDepth 100000 in
set_option maxHeartbeats 1000000 in
theorem c_run_0_5b {g : Gl} {I : Ty} {L : TL} {na nt ni m : Nat} {nl : Nat → Nat} {rn : Nat} (xz : Int32) (dz : Nat) (hdz : dz ≤ 18) (hrn : rn + 10 ≤ 1000) (hre : I 18 0 = nI rn) (nu va : Int32) (hnu : I 18 1 = nu) (hva : I 18 3 = va) (kk : Nat) (hk7 : kk < 7) (hkk : I 18 2 = nI kk) : Ct g yX0_run cX0_run 8 (some .int) 2 0 0 [.ref (g.1 + 18), .int 0, .int 5, .int xz, .int (nI dz)] I L (RT na nt ni) (NT nl) (NB + m) (Ps (some (.int (xz * 3 + nu))) (ctr I rn [30, 10]) L (RT na nt ni) (NT nl) (NB + m)) := by
  refine ct_of (by decide +kernel) (Nat.le_of_ble_eq_true rfl) (fun F hnm hr => ?_)
  clear hnm
  show V g F cX0_run RX0 8 2 0 [(0, .ref (g.1 + 18)), (1, .int 0), (2, .int 5), (3, .int xz), (4, .int (nI dz))] [] I L (RT na nt ni) (NT nl) (NB + m) 0 0
  refine v_bipush (v := 7) dX0_run_0 (by decide) ?_
  refine v_iload_n dX0_run_2 rfl 1 rfl ?_
  refine v_imul dX0_run_3 ?_
  refine v_is (y := 0) (by decide) ?_
  refine v_iload_n dX0_run_4 rfl 2 rfl ?_
  refine v_iadd dX0_run_5 ?_
  refine v_is (y := 5) (by decide) ?_
  refine v_istore (lv2 := [(5, .int 5), (0, .ref (g.1 + 18)), (1, .int 0), (2, .int 5), (3, .int xz), (4, .int (nI dz))]) dX0_run_6 (by decide) rfl ?_
  refine v_iload dX0_run_8 5 rfl ?_
  refine v_bipush (v := 20) dX0_run_10 (by decide) ?_
  refine v_icmp_gtN (a := dz) (b := 20) (tgt := 29) dX0_run_12 (by decide) rfl rfl (by omega) (by omega) (fun h => by exfalso; omega) (fun h1 => ?_)
  refine v_iload dX0_run_15 0 rfl ?_
  refine v_if_lt (tgt := 29) dX0_run_17 (by decide) (fun h2 => by first | exact absurd h2 (by decide) | exact absurd (by decide) h2) (fun _ => ?_)
  refine v_iload dX0_run_20 0 rfl ?_
  refine v_getSBODIES uf_X0_38 dX0_run_22 (fun tq3 htq3 => ?_)
  refine v_tlen htq3 dX0_run_25 ?_
  refine v_icmp_lt (tgt := 31) dX0_run_26 (by decide) (fun _ => ?_) (fun h4 => by first | exact absurd h4 (by decide) | exact absurd (by decide) h4)
  refine v_getSBODIES uf_X0_38 dX0_run_31 (fun tq5 htq5 => ?_)
  refine v_iload dX0_run_34 0 rfl ?_
  refine v_tiload (j := 5) htq5 dX0_run_36 rfl (by omega) (by decide) ?_
  refine v_is (y := 30) rfl ?_
  refine v_istore (lv2 := [(6, .int 30), (5, .int 5), (0, .ref (g.1 + 18)), (1, .int 0), (2, .int 5), (3, .int xz), (4, .int (nI dz))]) dX0_run_37 (by decide) rfl ?_
  refine v_aload_n dX0_run_39 rfl 2 rfl ?_
  refine v_iload dX0_run_40 0 rfl ?_
  refine v_callVv (As := [.int 30]) (rest := []) lk_X0_41 (c_X0_note 30 rn (by omega) hre) dX0_run_42 rfl (ltn rfl) rfl rfl (Nat.le_of_ble_eq_true rfl) (by decide) ?_
  refine v_I (I2 := (ctr I rn [30])) rfl ?_
  refine v_iload dX0_run_45 6 rfl ?_
  refine v_iconst (v := 1) dX0_run_47 (by decide) ?_
  refine v_iadd dX0_run_48 ?_
  refine v_is (nx_add rfl rfl) ?_
  refine v_istore (lv2 := [(7, .int (nI (dz + 1))), (6, .int 30), (5, .int 5), (0, .ref (g.1 + 18)), (1, .int 0), (2, .int 5), (3, .int xz), (4, .int (nI dz))]) dX0_run_49 (by decide) rfl ?_
  refine v_iload dX0_run_51 1 rfl ?_
  refine v_look (off := 152) (tgt := 205) dX0_run_53 (by decide) (by decide) (by decide) ?_
  refine v_aload_n dX0_run_205 rfl 3 rfl ?_
  refine v_iconst (v := 0) dX0_run_206 (by decide) ?_
  refine v_iconst (v := 0) dX0_run_207 (by decide) ?_
  refine v_iload_n dX0_run_208 rfl 6 rfl ?_
  refine v_iconst (v := 3) dX0_run_209 (by decide) ?_
  refine v_imul dX0_run_210 ?_
  refine v_iload dX0_run_211 0 rfl ?_
  refine v_callVi (As := [.int 0, .int 0, .int (xz * 3), .int (nI (dz + 1))]) (rest := []) lk_X0_34 (c_run_0_0 (I := (ctr I rn [30])) (xz * 3) (dz + 1) (rn := rn + ([30] : List Int32).length) (by omega) (by have h1 := knT_len (nI kk); have h2 := drT_le5 (nI kk); simp only [List.length_cons, List.length_nil, List.length_append]; omega) (ctr_0 [30] I rn hre) nu va ((ctr_18 [30] I rn _ (by decide)).trans hnu) ((ctr_18 [30] I rn _ (by decide)).trans hva) kk hk7 ((ctr_18 [30] I rn _ (by decide)).trans hkk)) dX0_run_213 rfl (ltn rfl) rfl rfl (Nat.le_of_ble_eq_true rfl) (by decide) ?_
  refine v_I (I2 := (ctr I rn ([30] ++ [10]))) (ctr_app _ _ _ _) ?_
  exact v_iret hr dX0_run_216 (⟨congrArg (fun z => some (Value.int z)) rfl, (congrArg (ctr I rn) (show ([30] ++ [10]) = [30, 10] from rfl)), rfl, rfl, rfl, rfl⟩)
set_option maxRecDepth 100000 in
set_option maxHeartbeats 1000000 in
theorem c_run_0_6b {g : Gl} {I : Ty} {L : TL} {na nt ni m : Nat} {nl : Nat → Nat} {rn : Nat} (xz : Int32) (dz : Nat) (hdz : dz ≤ 18) (hrn : rn + 10 ≤ 1000) (hre : I 18 0 = nI rn) (nu va : Int32) (hnu : I 18 1 = nu) (hva : I 18 3 = va) (kk : Nat) (hk7 : kk < 7) (hkk : I 18 2 = nI kk) : Ct g yX0_run cX0_run 8 (some .int) 2 0 0 [.ref (g.1 + 18), .int 0, .int 6, .int xz, .int (nI dz)] I L (RT na nt ni) (NT nl) (NB + m) (Ps (some (.int ((xz + nu) ^^^ va))) (ctr I rn [71, 10]) L (RT na nt ni) (NT nl) (NB + m)) := by
  refine ct_of (by decide +kernel) (Nat.le_of_ble_eq_true rfl) (fun F hnm hr => ?_)
  clear hnm
  show V g F cX0_run RX0 8 2 0 [(0, .ref (g.1 + 18)), (1, .int 0), (2, .int 6), (3, .int xz), (4, .int (nI dz))] [] I L (RT na nt ni) (NT nl) (NB + m) 0 0
  refine v_bipush (v := 7) dX0_run_0 (by decide) ?_
  refine v_iload_n dX0_run_2 rfl 1 rfl ?_
  refine v_imul dX0_run_3 ?_
  refine v_is (y := 0) (by decide) ?_
  refine v_iload_n dX0_run_4 rfl 2 rfl ?_
  refine v_iadd dX0_run_5 ?_
  refine v_is (y := 6) (by decide) ?_
  refine v_istore (lv2 := [(5, .int 6), (0, .ref (g.1 + 18)), (1, .int 0), (2, .int 6), (3, .int xz), (4, .int (nI dz))]) dX0_run_6 (by decide) rfl ?_
  refine v_iload dX0_run_8 5 rfl ?_
  refine v_bipush (v := 20) dX0_run_10 (by decide) ?_
  refine v_icmp_gtN (a := dz) (b := 20) (tgt := 29) dX0_run_12 (by decide) rfl rfl (by omega) (by omega) (fun h => by exfalso; omega) (fun h1 => ?_)
  refine v_iload dX0_run_15 0 rfl ?_
  refine v_if_lt (tgt := 29) dX0_run_17 (by decide) (fun h2 => by first | exact absurd h2 (by decide) | exact absurd (by decide) h2) (fun _ => ?_)
  refine v_iload dX0_run_20 0 rfl ?_
  refine v_getSBODIES uf_X0_38 dX0_run_22 (fun tq3 htq3 => ?_)
  refine v_tlen htq3 dX0_run_25 ?_
  refine v_icmp_lt (tgt := 31) dX0_run_26 (by decide) (fun _ => ?_) (fun h4 => by first | exact absurd h4 (by decide) | exact absurd (by decide) h4)
  refine v_getSBODIES uf_X0_38 dX0_run_31 (fun tq5 htq5 => ?_)
  refine v_iload dX0_run_34 0 rfl ?_
  refine v_tiload (j := 6) htq5 dX0_run_36 rfl (by omega) (by decide) ?_
  refine v_is (y := 71) rfl ?_
  refine v_istore (lv2 := [(6, .int 71), (5, .int 6), (0, .ref (g.1 + 18)), (1, .int 0), (2, .int 6), (3, .int xz), (4, .int (nI dz))]) dX0_run_37 (by decide) rfl ?_
  refine v_aload_n dX0_run_39 rfl 2 rfl ?_
  refine v_iload dX0_run_40 0 rfl ?_
  refine v_callVv (As := [.int 71]) (rest := []) lk_X0_41 (c_X0_note 71 rn (by omega) hre) dX0_run_42 rfl (ltn rfl) rfl rfl (Nat.le_of_ble_eq_true rfl) (by decide) ?_
  refine v_I (I2 := (ctr I rn [71])) rfl ?_
  refine v_iload dX0_run_45 6 rfl ?_
  refine v_iconst (v := 1) dX0_run_47 (by decide) ?_
  refine v_iadd dX0_run_48 ?_
  refine v_is (nx_add rfl rfl) ?_
  refine v_istore (lv2 := [(7, .int (nI (dz + 1))), (6, .int 71), (5, .int 6), (0, .ref (g.1 + 18)), (1, .int 0), (2, .int 6), (3, .int xz), (4, .int (nI dz))]) dX0_run_49 (by decide) rfl ?_
  refine v_iload dX0_run_51 1 rfl ?_
  refine v_look (off := 245) (tgt := 298) dX0_run_53 (by decide) (by decide) (by decide) ?_
  refine v_aload_n dX0_run_298 rfl 3 rfl ?_
  refine v_iconst (v := 0) dX0_run_299 (by decide) ?_
  refine v_iconst (v := 3) dX0_run_300 (by decide) ?_
  refine v_iload_n dX0_run_301 rfl 6 rfl ?_
  refine v_iload dX0_run_302 0 rfl ?_
  refine v_callVi (As := [.int 0, .int 3, .int xz, .int (nI (dz + 1))]) (rest := []) lk_X0_34 (c_run_0_3 (I := (ctr I rn [71])) xz (dz + 1) (rn := rn + ([71] : List Int32).length) (by omega) (by have h1 := knT_len (nI kk); have h2 := drT_le5 (nI kk); simp only [List.length_cons, List.length_nil, List.length_append]; omega) (ctr_0 [71] I rn hre) nu va ((ctr_18 [71] I rn _ (by decide)).trans hnu) ((ctr_18 [71] I rn _ (by decide)).trans hva) kk hk7 ((ctr_18 [71] I rn _ (by decide)).trans hkk)) dX0_run_304 rfl (ltn rfl) rfl rfl (Nat.le_of_ble_eq_true rfl) (by decide) ?_
  refine v_I (I2 := (ctr I rn ([71] ++ [10]))) (ctr_app _ _ _ _) ?_
  refine v_aload_n dX0_run_307 rfl 3 rfl ?_
  refine v_get (v := .int ((ctr I rn ([71] ++ [10])) 18 3)) fa_X0_31 dX0_run_308 rfl (by decide) (ltn rfl) rfl ?_
  refine v_is (y := va) (by exact (ctr_18 _ _ _ _ (by decide)).trans hva) ?_
  refine v_ixor dX0_run_311 ?_
  exact v_iret hr dX0_run_312 (⟨congrArg (fun z => some (Value.int z)) rfl, (congrArg (ctr I rn) (show ([71] ++ [10]) = [71, 10] from rfl)), rfl, rfl, rfl, rfl⟩)
theorem knV_k (nu va x : Int32) : (knV (nI 0) nu va x = x + nu ∧ knT (nI 0) = [10]) ∧ (knV (nI 1) nu va x = x + nu ∧ knT (nI 1) = [10]) ∧ (knV (nI 2) nu va x = x * 3 + nu ∧ knT (nI 2) = [30, 10]) ∧ (knV (nI 3) nu va x = x + nu ∧ knT (nI 3) = [10]) ∧ (knV (nI 4) nu va x = -(x + nu) ∧ knT (nI 4) = [50, 10]) ∧ (knV (nI 5) nu va x = x * 3 + nu ∧ knT (nI 5) = [30, 10]) ∧ (knV (nI 6) nu va x = (x + nu) ^^^ va ∧ knT (nI 6) = [71, 10]) := by
  unfold knV knT
  refine ⟨⟨?_, ?_⟩, ⟨?_, ?_⟩, ⟨?_, ?_⟩, ⟨?_, ?_⟩, ⟨?_, ?_⟩, ⟨?_, ?_⟩, ⟨?_, ?_⟩⟩ <;> first | (rw [ifc_t (by decide)]; done) | (rw [ifc_f (by decide), ifc_t (by decide)]; done) | (rw [ifc_f (by decide), ifc_f (by decide), ifc_t (by decide)]; done) | (rw [ifc_f (by decide), ifc_f (by decide), ifc_f (by decide)]; done)
theorem c_run0 {g : Gl} {I : Ty} {L : TL} {na nt ni m : Nat} {nl : Nat → Nat} {rn : Nat} (xz : Int32) (dz : Nat) (hdz : dz ≤ 18) (hrn : rn + 10 ≤ 1000) (hre : I 18 0 = nI rn) (nu va : Int32) (hnu : I 18 1 = nu) (hva : I 18 3 = va) (kk : Nat) (hk7 : kk < 7) (hkk : I 18 2 = nI kk) : Ct g yX0_run cX0_run 8 (some .int) 2 0 0 [.ref (g.1 + 18), .int 0, .int (nI kk), .int xz, .int (nI dz)] I L (RT na nt ni) (NT nl) (NB + m) (Ps (some (.int (knV (nI kk) nu va xz))) (ctr I rn (knT (nI kk))) L (RT na nt ni) (NT nl) (NB + m)) := by
  rcases (show kk = 0 ∨ kk = 1 ∨ kk = 2 ∨ kk = 3 ∨ kk = 4 ∨ kk = 5 ∨ kk = 6 by omega) with e | e | e | e | e | e | e <;> subst e
  · rw [(knV_k nu va xz).1.1, (knV_k nu va xz).1.2]; exact c_run_0_0b xz dz hdz hrn hre nu va hnu hva 0 hk7 hkk
  · rw [(knV_k nu va xz).2.1.1, (knV_k nu va xz).2.1.2]; exact c_run_0_1b xz dz hdz hrn hre nu va hnu hva 1 hk7 hkk
  · rw [(knV_k nu va xz).2.2.1.1, (knV_k nu va xz).2.2.1.2]; exact c_run_0_2b xz dz hdz hrn hre nu va hnu hva 2 hk7 hkk
  · rw [(knV_k nu va xz).2.2.2.1.1, (knV_k nu va xz).2.2.2.1.2]; exact c_run_0_3b xz dz hdz hrn hre nu va hnu hva 3 hk7 hkk
  · rw [(knV_k nu va xz).2.2.2.2.1.1, (knV_k nu va xz).2.2.2.2.1.2]; exact c_run_0_4b xz dz hdz hrn hre nu va hnu hva 4 hk7 hkk
  · rw [(knV_k nu va xz).2.2.2.2.2.1.1, (knV_k nu va xz).2.2.2.2.2.1.2]; exact c_run_0_5b xz dz hdz hrn hre nu va hnu hva 5 hk7 hkk
  · rw [(knV_k nu va xz).2.2.2.2.2.2.1, (knV_k nu va xz).2.2.2.2.2.2.2]; exact c_run_0_6b xz dz hdz hrn hre nu va hnu hva 6 hk7 hkk
