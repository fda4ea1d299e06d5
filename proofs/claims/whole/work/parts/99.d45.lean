def kI2 (I : Ty) : Ty := (va_up (wr I 2 1 5) 3 Zi)
def kL2 (L : TL) : TL := L
def kR2 (R : TR) : TR := (rput R 2 2 3)
def kN2 (N : TN) : TN := (va_up N 3 15)
set_option maxRecDepth 100000 in
set_option maxHeartbeats 1000000 in
theorem c_mk2 {g : Gl} {I : Ty} {L : TL} {R : TR} {N : TN} : Ct g yX5_init cX5_init 2 none 1 1 15 [.ref (g.1 + 2), .int 5] I L R N 3 (Ps none (kI2 I) (kL2 L) (kR2 R) (kN2 N) 4) := by
  refine ct_of (by decide +kernel) (Nat.le_of_ble_eq_true rfl) (fun F hnm hr => ?_)
  have hnm : F.2.2.2.2.2.2.2.2.1.name = "<init>" := hnm
  show V g F cX5_init RX5 2 1 0 [(0, .ref (g.1 + 2)), (1, .int 5)] [] I L R N 3 1 15
  refine v_aload_n dX5_init_0 rfl 0 rfl ?_
  refine v_obj (k := 2) ol_X5_1 oim oco dX5_init_1 (by decide) (Nat.le_of_ble_eq_true rfl) ?_
  refine v_aload_n dX5_init_4 rfl 0 rfl ?_
  refine v_iload_n dX5_init_5 rfl 1 rfl ?_
  refine w_putFi pf_X5_7 hnm dX5_init_6 rfl (by decide) (by decide) (by show 1 < 3; decide) ((show ∀ (Ik : Nat → Int32) (Rk : Nat → Option Nat), (fld g.1 Ik Rk 5).set 1 (.int 5) = fld g.1 (va_up Ik 1 5) Rk 5 from fun _ _ => rfl) _ _) ?_
  refine v_aload_n dX5_init_9 rfl 0 rfl ?_
  refine v_iconst (v := 3) dX5_init_10 (by decide) ?_
  refine v_iload_n dX5_init_11 rfl 1 rfl ?_
  refine v_imul dX5_init_12 ?_
  refine v_is (y := 15) (by decide) ?_
  refine w_newi (len := 15) dX5_init_13 rfl rfl (by decide) 4 0 0 rfl rfl rfl ?_
  refine w_putFr (t := 3) pf_X5_13 ⟨rfl, rfl⟩ hnm dX5_init_15 rfl (by decide) (by decide) (by show 2 < 3; decide) ((show ∀ (Ik : Nat → Int32) (Rk : Nat → Option Nat), (fld g.1 Ik Rk 5).set 2 (.ref (g.1 + 3)) = fld g.1 Ik (va_up Rk 2 (some 3)) 5 from fun _ _ => rfl) _ _) ?_
  exact v_vret hr dX5_init_18 (⟨rfl, rfl, rfl, rfl, rfl, rfl⟩)
def kI4 (I : Ty) : Ty := (va_up (wr I 4 1 8) 5 Zi)
def kL4 (L : TL) : TL := L
def kR4 (R : TR) : TR := (rput R 4 2 5)
def kN4 (N : TN) : TN := (va_up N 5 24)
set_option maxRecDepth 100000 in
set_option maxHeartbeats 1000000 in
theorem c_mk4 {g : Gl} {I : Ty} {L : TL} {R : TR} {N : TN} : Ct g yX5_init cX5_init 2 none 1 1 24 [.ref (g.1 + 4), .int 8] I L R N 5 (Ps none (kI4 I) (kL4 L) (kR4 R) (kN4 N) 6) := by
  refine ct_of (by decide +kernel) (Nat.le_of_ble_eq_true rfl) (fun F hnm hr => ?_)
  have hnm : F.2.2.2.2.2.2.2.2.1.name = "<init>" := hnm
  show V g F cX5_init RX5 2 1 0 [(0, .ref (g.1 + 4)), (1, .int 8)] [] I L R N 5 1 24
  refine v_aload_n dX5_init_0 rfl 0 rfl ?_
  refine v_obj (k := 4) ol_X5_1 oim oco dX5_init_1 (by decide) (Nat.le_of_ble_eq_true rfl) ?_
  refine v_aload_n dX5_init_4 rfl 0 rfl ?_
  refine v_iload_n dX5_init_5 rfl 1 rfl ?_
  refine w_putFi pf_X5_7 hnm dX5_init_6 rfl (by decide) (by decide) (by show 1 < 3; decide) ((show ∀ (Ik : Nat → Int32) (Rk : Nat → Option Nat), (fld g.1 Ik Rk 5).set 1 (.int 8) = fld g.1 (va_up Ik 1 8) Rk 5 from fun _ _ => rfl) _ _) ?_
  refine v_aload_n dX5_init_9 rfl 0 rfl ?_
  refine v_iconst (v := 3) dX5_init_10 (by decide) ?_
  refine v_iload_n dX5_init_11 rfl 1 rfl ?_
  refine v_imul dX5_init_12 ?_
  refine v_is (y := 24) (by decide) ?_
  refine w_newi (len := 24) dX5_init_13 rfl rfl (by decide) 6 0 0 rfl rfl rfl ?_
  refine w_putFr (t := 5) pf_X5_13 ⟨rfl, rfl⟩ hnm dX5_init_15 rfl (by decide) (by decide) (by show 2 < 3; decide) ((show ∀ (Ik : Nat → Int32) (Rk : Nat → Option Nat), (fld g.1 Ik Rk 5).set 2 (.ref (g.1 + 5)) = fld g.1 Ik (va_up Rk 2 (some 5)) 5 from fun _ _ => rfl) _ _) ?_
  exact v_vret hr dX5_init_18 (⟨rfl, rfl, rfl, rfl, rfl, rfl⟩)
def kI6 (I : Ty) : Ty := (va_up (wr I 6 1 8) 7 Zi)
def kL6 (L : TL) : TL := L
def kR6 (R : TR) : TR := (rput R 6 2 7)
def kN6 (N : TN) : TN := (va_up N 7 24)
set_option maxRecDepth 100000 in
set_option maxHeartbeats 1000000 in
theorem c_mk6 {g : Gl} {I : Ty} {L : TL} {R : TR} {N : TN} : Ct g yX5_init cX5_init 2 none 1 1 24 [.ref (g.1 + 6), .int 8] I L R N 7 (Ps none (kI6 I) (kL6 L) (kR6 R) (kN6 N) 8) := by
  refine ct_of (by decide +kernel) (Nat.le_of_ble_eq_true rfl) (fun F hnm hr => ?_)
  have hnm : F.2.2.2.2.2.2.2.2.1.name = "<init>" := hnm
  show V g F cX5_init RX5 2 1 0 [(0, .ref (g.1 + 6)), (1, .int 8)] [] I L R N 7 1 24
  refine v_aload_n dX5_init_0 rfl 0 rfl ?_
  refine v_obj (k := 6) ol_X5_1 oim oco dX5_init_1 (by decide) (Nat.le_of_ble_eq_true rfl) ?_
  refine v_aload_n dX5_init_4 rfl 0 rfl ?_
  refine v_iload_n dX5_init_5 rfl 1 rfl ?_
  refine w_putFi pf_X5_7 hnm dX5_init_6 rfl (by decide) (by decide) (by show 1 < 3; decide) ((show ∀ (Ik : Nat → Int32) (Rk : Nat → Option Nat), (fld g.1 Ik Rk 5).set 1 (.int 8) = fld g.1 (va_up Ik 1 8) Rk 5 from fun _ _ => rfl) _ _) ?_
  refine v_aload_n dX5_init_9 rfl 0 rfl ?_
  refine v_iconst (v := 3) dX5_init_10 (by decide) ?_
  refine v_iload_n dX5_init_11 rfl 1 rfl ?_
  refine v_imul dX5_init_12 ?_
  refine v_is (y := 24) (by decide) ?_
  refine w_newi (len := 24) dX5_init_13 rfl rfl (by decide) 8 0 0 rfl rfl rfl ?_
  refine w_putFr (t := 7) pf_X5_13 ⟨rfl, rfl⟩ hnm dX5_init_15 rfl (by decide) (by decide) (by show 2 < 3; decide) ((show ∀ (Ik : Nat → Int32) (Rk : Nat → Option Nat), (fld g.1 Ik Rk 5).set 2 (.ref (g.1 + 7)) = fld g.1 Ik (va_up Rk 2 (some 7)) 5 from fun _ _ => rfl) _ _) ?_
  exact v_vret hr dX5_init_18 (⟨rfl, rfl, rfl, rfl, rfl, rfl⟩)
def kI9 (I : Ty) : Ty := (va_up (wr I 9 1 5) 10 Zi)
def kL9 (L : TL) : TL := L
def kR9 (R : TR) : TR := (rput R 9 2 10)
def kN9 (N : TN) : TN := (va_up N 10 15)
set_option maxRecDepth 100000 in
set_option maxHeartbeats 1000000 in
theorem c_mk9 {g : Gl} {I : Ty} {L : TL} {R : TR} {N : TN} : Ct g yX5_init cX5_init 2 none 1 1 15 [.ref (g.1 + 9), .int 5] I L R N 10 (Ps none (kI9 I) (kL9 L) (kR9 R) (kN9 N) 11) := by
  refine ct_of (by decide +kernel) (Nat.le_of_ble_eq_true rfl) (fun F hnm hr => ?_)
  have hnm : F.2.2.2.2.2.2.2.2.1.name = "<init>" := hnm
  show V g F cX5_init RX5 2 1 0 [(0, .ref (g.1 + 9)), (1, .int 5)] [] I L R N 10 1 15
  refine v_aload_n dX5_init_0 rfl 0 rfl ?_
  refine v_obj (k := 9) ol_X5_1 oim oco dX5_init_1 (by decide) (Nat.le_of_ble_eq_true rfl) ?_
  refine v_aload_n dX5_init_4 rfl 0 rfl ?_
  refine v_iload_n dX5_init_5 rfl 1 rfl ?_
  refine w_putFi pf_X5_7 hnm dX5_init_6 rfl (by decide) (by decide) (by show 1 < 3; decide) ((show ∀ (Ik : Nat → Int32) (Rk : Nat → Option Nat), (fld g.1 Ik Rk 5).set 1 (.int 5) = fld g.1 (va_up Ik 1 5) Rk 5 from fun _ _ => rfl) _ _) ?_
  refine v_aload_n dX5_init_9 rfl 0 rfl ?_
  refine v_iconst (v := 3) dX5_init_10 (by decide) ?_
  refine v_iload_n dX5_init_11 rfl 1 rfl ?_
  refine v_imul dX5_init_12 ?_
  refine v_is (y := 15) (by decide) ?_
  refine w_newi (len := 15) dX5_init_13 rfl rfl (by decide) 11 0 0 rfl rfl rfl ?_
  refine w_putFr (t := 10) pf_X5_13 ⟨rfl, rfl⟩ hnm dX5_init_15 rfl (by decide) (by decide) (by show 2 < 3; decide) ((show ∀ (Ik : Nat → Int32) (Rk : Nat → Option Nat), (fld g.1 Ik Rk 5).set 2 (.ref (g.1 + 10)) = fld g.1 Ik (va_up Rk 2 (some 10)) 5 from fun _ _ => rfl) _ _) ?_
  exact v_vret hr dX5_init_18 (⟨rfl, rfl, rfl, rfl, rfl, rfl⟩)
def kI11 (I : Ty) : Ty := (va_up (wr I 11 1 8) 12 Zi)
def kL11 (L : TL) : TL := L
def kR11 (R : TR) : TR := (rput R 11 2 12)
def kN11 (N : TN) : TN := (va_up N 12 24)
set_option maxRecDepth 100000 in
set_option maxHeartbeats 1000000 in
theorem c_mk11 {g : Gl} {I : Ty} {L : TL} {R : TR} {N : TN} : Ct g yX5_init cX5_init 2 none 1 1 24 [.ref (g.1 + 11), .int 8] I L R N 12 (Ps none (kI11 I) (kL11 L) (kR11 R) (kN11 N) 13) := by
  refine ct_of (by decide +kernel) (Nat.le_of_ble_eq_true rfl) (fun F hnm hr => ?_)
  have hnm : F.2.2.2.2.2.2.2.2.1.name = "<init>" := hnm
  show V g F cX5_init RX5 2 1 0 [(0, .ref (g.1 + 11)), (1, .int 8)] [] I L R N 12 1 24
  refine v_aload_n dX5_init_0 rfl 0 rfl ?_
  refine v_obj (k := 11) ol_X5_1 oim oco dX5_init_1 (by decide) (Nat.le_of_ble_eq_true rfl) ?_
  refine v_aload_n dX5_init_4 rfl 0 rfl ?_
  refine v_iload_n dX5_init_5 rfl 1 rfl ?_
  refine w_putFi pf_X5_7 hnm dX5_init_6 rfl (by decide) (by decide) (by show 1 < 3; decide) ((show ∀ (Ik : Nat → Int32) (Rk : Nat → Option Nat), (fld g.1 Ik Rk 5).set 1 (.int 8) = fld g.1 (va_up Ik 1 8) Rk 5 from fun _ _ => rfl) _ _) ?_
  refine v_aload_n dX5_init_9 rfl 0 rfl ?_
  refine v_iconst (v := 3) dX5_init_10 (by decide) ?_
  refine v_iload_n dX5_init_11 rfl 1 rfl ?_
  refine v_imul dX5_init_12 ?_
  refine v_is (y := 24) (by decide) ?_
  refine w_newi (len := 24) dX5_init_13 rfl rfl (by decide) 13 0 0 rfl rfl rfl ?_
  refine w_putFr (t := 12) pf_X5_13 ⟨rfl, rfl⟩ hnm dX5_init_15 rfl (by decide) (by decide) (by show 2 < 3; decide) ((show ∀ (Ik : Nat → Int32) (Rk : Nat → Option Nat), (fld g.1 Ik Rk 5).set 2 (.ref (g.1 + 12)) = fld g.1 Ik (va_up Rk 2 (some 12)) 5 from fun _ _ => rfl) _ _) ?_
  exact v_vret hr dX5_init_18 (⟨rfl, rfl, rfl, rfl, rfl, rfl⟩)
def kI13 (I : Ty) : Ty := (va_up (wr I 13 1 8) 14 Zi)
def kL13 (L : TL) : TL := L
def kR13 (R : TR) : TR := (rput R 13 2 14)
def kN13 (N : TN) : TN := (va_up N 14 24)
set_option maxRecDepth 100000 in
set_option maxHeartbeats 1000000 in
theorem c_mk13 {g : Gl} {I : Ty} {L : TL} {R : TR} {N : TN} : Ct g yX5_init cX5_init 2 none 1 1 24 [.ref (g.1 + 13), .int 8] I L R N 14 (Ps none (kI13 I) (kL13 L) (kR13 R) (kN13 N) 15) := by
  refine ct_of (by decide +kernel) (Nat.le_of_ble_eq_true rfl) (fun F hnm hr => ?_)
  have hnm : F.2.2.2.2.2.2.2.2.1.name = "<init>" := hnm
  show V g F cX5_init RX5 2 1 0 [(0, .ref (g.1 + 13)), (1, .int 8)] [] I L R N 14 1 24
  refine v_aload_n dX5_init_0 rfl 0 rfl ?_
  refine v_obj (k := 13) ol_X5_1 oim oco dX5_init_1 (by decide) (Nat.le_of_ble_eq_true rfl) ?_
  refine v_aload_n dX5_init_4 rfl 0 rfl ?_
  refine v_iload_n dX5_init_5 rfl 1 rfl ?_
  refine w_putFi pf_X5_7 hnm dX5_init_6 rfl (by decide) (by decide) (by show 1 < 3; decide) ((show ∀ (Ik : Nat → Int32) (Rk : Nat → Option Nat), (fld g.1 Ik Rk 5).set 1 (.int 8) = fld g.1 (va_up Ik 1 8) Rk 5 from fun _ _ => rfl) _ _) ?_
  refine v_aload_n dX5_init_9 rfl 0 rfl ?_
  refine v_iconst (v := 3) dX5_init_10 (by decide) ?_
  refine v_iload_n dX5_init_11 rfl 1 rfl ?_
  refine v_imul dX5_init_12 ?_
  refine v_is (y := 24) (by decide) ?_
  refine w_newi (len := 24) dX5_init_13 rfl rfl (by decide) 15 0 0 rfl rfl rfl ?_
  refine w_putFr (t := 14) pf_X5_13 ⟨rfl, rfl⟩ hnm dX5_init_15 rfl (by decide) (by decide) (by show 2 < 3; decide) ((show ∀ (Ik : Nat → Int32) (Rk : Nat → Option Nat), (fld g.1 Ik Rk 5).set 2 (.ref (g.1 + 14)) = fld g.1 Ik (va_up Rk 2 (some 14)) 5 from fun _ _ => rfl) _ _) ?_
  exact v_vret hr dX5_init_18 (⟨rfl, rfl, rfl, rfl, rfl, rfl⟩)
def kI1 (I : Ty) : Ty := (kI6 (va_up (kI4 (va_up (kI2 (va_up I 2 Zi)) 4 Zi)) 6 Zi))
def kL1 (L : TL) : TL := (kL6 (kL4 (kL2 L)))
def kR1 (R : TR) : TR := (rput (kR6 (va_up (rput (kR4 (va_up (rput (kR2 (va_up R 2 Zr)) 1 0 2) 4 Zr)) 1 1 4) 6 Zr)) 1 2 6)
def kN1 (N : TN) : TN := (kN6 (kN4 (kN2 N)))
set_option maxRecDepth 100000 in
set_option maxHeartbeats 1000000 in
theorem c_mk1 {g : Gl} {I : Ty} {L : TL} {R : TR} {N : TN} : Ct g yX1_init cX1_init 1 none 2 6 72 [.ref (g.1 + 1)] I L R N 2 (Ps none (kI1 I) (kL1 L) (kR1 R) (kN1 N) 8) := by
  refine ct_of (by decide +kernel) (Nat.le_of_ble_eq_true rfl) (fun F hnm hr => ?_)
  have hnm : F.2.2.2.2.2.2.2.2.1.name = "<init>" := hnm
  show V g F cX1_init RX1 1 2 0 [(0, .ref (g.1 + 1))] [] I L R N 2 6 72
  refine v_aload_n dX1_init_0 rfl 0 rfl ?_
  refine v_obj (k := 1) ol_X1_1 oim oco dX1_init_1 (by decide) (Nat.le_of_ble_eq_true rfl) ?_
  refine v_aload_n dX1_init_4 rfl 0 rfl ?_
  refine w_newo nk_X1_7 dX1_init_5 rfl (by decide) 3 5 69 rfl rfl rfl ?_
  refine v_dup dX1_init_8 rfl ?_
  refine v_iconst (v := 5) dX1_init_9 (by decide) ?_
  refine v_callIv (As := [.int 5]) (rest := [.ref (g.1 + 2), .ref (g.1 + 1)]) lk_X1_9 (c_mk2 (I := (va_up I 2 Zi)) (L := L) (R := (va_up R 2 Zr)) (N := N)) dX1_init_10 rfl rfl (Nat.le_of_ble_eq_true rfl) (by decide) 4 54 rfl rfl ?_
  refine w_putFr (t := 2) pf_X1_12 ⟨rfl, rfl⟩ hnm dX1_init_13 rfl (by decide) (by decide) (by show 0 < 3; decide) ((show ∀ (Ik : Nat → Int32) (Rk : Nat → Option Nat), (fld g.1 Ik Rk 1).set 0 (.ref (g.1 + 2)) = fld g.1 Ik (va_up Rk 0 (some 2)) 1 from fun _ _ => rfl) _ _) ?_
  refine v_aload_n dX1_init_16 rfl 0 rfl ?_
  refine w_newo nk_X1_7 dX1_init_17 rfl (by decide) 5 3 51 rfl rfl rfl ?_
  refine v_dup dX1_init_20 rfl ?_
  refine v_bipush (v := 8) dX1_init_21 (by decide) ?_
  refine v_callIv (As := [.int 8]) (rest := [.ref (g.1 + 4), .ref (g.1 + 1)]) lk_X1_9 (c_mk4 (I := (va_up (kI2 (va_up I 2 Zi)) 4 Zi)) (L := (kL2 L)) (R := (va_up (rput (kR2 (va_up R 2 Zr)) 1 0 2) 4 Zr)) (N := (kN2 N))) dX1_init_23 rfl rfl (Nat.le_of_ble_eq_true rfl) (by decide) 2 27 rfl rfl ?_
  refine w_putFr (t := 4) pf_X1_18 ⟨rfl, rfl⟩ hnm dX1_init_26 rfl (by decide) (by decide) (by show 1 < 3; decide) ((show ∀ (Ik : Nat → Int32) (Rk : Nat → Option Nat), (fld g.1 Ik Rk 1).set 1 (.ref (g.1 + 4)) = fld g.1 Ik (va_up Rk 1 (some 4)) 1 from fun _ _ => rfl) _ _) ?_
  refine v_aload_n dX1_init_29 rfl 0 rfl ?_
  refine w_newo nk_X1_7 dX1_init_30 rfl (by decide) 7 1 24 rfl rfl rfl ?_
  refine v_dup dX1_init_33 rfl ?_
  refine v_bipush (v := 8) dX1_init_34 (by decide) ?_
  refine v_callIv (As := [.int 8]) (rest := [.ref (g.1 + 6), .ref (g.1 + 1)]) lk_X1_9 (c_mk6 (I := (va_up (kI4 (va_up (kI2 (va_up I 2 Zi)) 4 Zi)) 6 Zi)) (L := (kL4 (kL2 L))) (R := (va_up (rput (kR4 (va_up (rput (kR2 (va_up R 2 Zr)) 1 0 2) 4 Zr)) 1 1 4) 6 Zr)) (N := (kN4 (kN2 N)))) dX1_init_36 rfl rfl (Nat.le_of_ble_eq_true rfl) (by decide) 0 0 rfl rfl ?_
  refine w_putFr (t := 6) pf_X1_21 ⟨rfl, rfl⟩ hnm dX1_init_39 rfl (by decide) (by decide) (by show 2 < 3; decide) ((show ∀ (Ik : Nat → Int32) (Rk : Nat → Option Nat), (fld g.1 Ik Rk 1).set 2 (.ref (g.1 + 6)) = fld g.1 Ik (va_up Rk 2 (some 6)) 1 from fun _ _ => rfl) _ _) ?_
  exact v_vret hr dX1_init_42 (⟨rfl, rfl, rfl, rfl, rfl, rfl⟩)
def kI8 (I : Ty) : Ty := (kI13 (va_up (kI11 (va_up (kI9 (va_up I 9 Zi)) 11 Zi)) 13 Zi))
def kL8 (L : TL) : TL := (kL13 (kL11 (kL9 L)))
def kR8 (R : TR) : TR := (rput (kR13 (va_up (rput (kR11 (va_up (rput (kR9 (va_up R 9 Zr)) 8 0 9) 11 Zr)) 8 1 11) 13 Zr)) 8 2 13)
def kN8 (N : TN) : TN := (kN13 (kN11 (kN9 N)))
set_option maxRecDepth 100000 in
set_option maxHeartbeats 1000000 in
theorem c_mk8 {g : Gl} {I : Ty} {L : TL} {R : TR} {N : TN} : Ct g yX1_init cX1_init 1 none 2 6 72 [.ref (g.1 + 8)] I L R N 9 (Ps none (kI8 I) (kL8 L) (kR8 R) (kN8 N) 15) := by
  refine ct_of (by decide +kernel) (Nat.le_of_ble_eq_true rfl) (fun F hnm hr => ?_)
  have hnm : F.2.2.2.2.2.2.2.2.1.name = "<init>" := hnm
  show V g F cX1_init RX1 1 2 0 [(0, .ref (g.1 + 8))] [] I L R N 9 6 72
  refine v_aload_n dX1_init_0 rfl 0 rfl ?_
  refine v_obj (k := 8) ol_X1_1 oim oco dX1_init_1 (by decide) (Nat.le_of_ble_eq_true rfl) ?_
  refine v_aload_n dX1_init_4 rfl 0 rfl ?_
  refine w_newo nk_X1_7 dX1_init_5 rfl (by decide) 10 5 69 rfl rfl rfl ?_
  refine v_dup dX1_init_8 rfl ?_
  refine v_iconst (v := 5) dX1_init_9 (by decide) ?_
  refine v_callIv (As := [.int 5]) (rest := [.ref (g.1 + 9), .ref (g.1 + 8)]) lk_X1_9 (c_mk9 (I := (va_up I 9 Zi)) (L := L) (R := (va_up R 9 Zr)) (N := N)) dX1_init_10 rfl rfl (Nat.le_of_ble_eq_true rfl) (by decide) 4 54 rfl rfl ?_
  refine w_putFr (t := 9) pf_X1_12 ⟨rfl, rfl⟩ hnm dX1_init_13 rfl (by decide) (by decide) (by show 0 < 3; decide) ((show ∀ (Ik : Nat → Int32) (Rk : Nat → Option Nat), (fld g.1 Ik Rk 1).set 0 (.ref (g.1 + 9)) = fld g.1 Ik (va_up Rk 0 (some 9)) 1 from fun _ _ => rfl) _ _) ?_
  refine v_aload_n dX1_init_16 rfl 0 rfl ?_
  refine w_newo nk_X1_7 dX1_init_17 rfl (by decide) 12 3 51 rfl rfl rfl ?_
  refine v_dup dX1_init_20 rfl ?_
  refine v_bipush (v := 8) dX1_init_21 (by decide) ?_
  refine v_callIv (As := [.int 8]) (rest := [.ref (g.1 + 11), .ref (g.1 + 8)]) lk_X1_9 (c_mk11 (I := (va_up (kI9 (va_up I 9 Zi)) 11 Zi)) (L := (kL9 L)) (R := (va_up (rput (kR9 (va_up R 9 Zr)) 8 0 9) 11 Zr)) (N := (kN9 N))) dX1_init_23 rfl rfl (Nat.le_of_ble_eq_true rfl) (by decide) 2 27 rfl rfl ?_
  refine w_putFr (t := 11) pf_X1_18 ⟨rfl, rfl⟩ hnm dX1_init_26 rfl (by decide) (by decide) (by show 1 < 3; decide) ((show ∀ (Ik : Nat → Int32) (Rk : Nat → Option Nat), (fld g.1 Ik Rk 1).set 1 (.ref (g.1 + 11)) = fld g.1 Ik (va_up Rk 1 (some 11)) 1 from fun _ _ => rfl) _ _) ?_
  refine v_aload_n dX1_init_29 rfl 0 rfl ?_
  refine w_newo nk_X1_7 dX1_init_30 rfl (by decide) 14 1 24 rfl rfl rfl ?_
  refine v_dup dX1_init_33 rfl ?_
  refine v_bipush (v := 8) dX1_init_34 (by decide) ?_
  refine v_callIv (As := [.int 8]) (rest := [.ref (g.1 + 13), .ref (g.1 + 8)]) lk_X1_9 (c_mk13 (I := (va_up (kI11 (va_up (kI9 (va_up I 9 Zi)) 11 Zi)) 13 Zi)) (L := (kL11 (kL9 L))) (R := (va_up (rput (kR11 (va_up (rput (kR9 (va_up R 9 Zr)) 8 0 9) 11 Zr)) 8 1 11) 13 Zr)) (N := (kN11 (kN9 N)))) dX1_init_36 rfl rfl (Nat.le_of_ble_eq_true rfl) (by decide) 0 0 rfl rfl ?_
  refine w_putFr (t := 13) pf_X1_21 ⟨rfl, rfl⟩ hnm dX1_init_39 rfl (by decide) (by decide) (by show 2 < 3; decide) ((show ∀ (Ik : Nat → Int32) (Rk : Nat → Option Nat), (fld g.1 Ik Rk 1).set 2 (.ref (g.1 + 13)) = fld g.1 Ik (va_up Rk 2 (some 13)) 1 from fun _ _ => rfl) _ _) ?_
  exact v_vret hr dX1_init_42 (⟨rfl, rfl, rfl, rfl, rfl, rfl⟩)
def kI15 (I : Ty) : Ty := (va_up (va_up I 16 Zi) 17 Zi)
def kL15 (L : TL) : TL := L
def kR15 (R : TR) : TR := (rput (rput R 15 2 16) 15 3 17)
def kN15 (N : TN) : TN := (va_up (va_up N 16 100) 17 100)
set_option maxRecDepth 100000 in
set_option maxHeartbeats 1000000 in
theorem c_mk15 {g : Gl} {I : Ty} {L : TL} {R : TR} {N : TN} : Ct g yX4_init cX4_init 1 none 1 2 200 [.ref (g.1 + 15)] I L R N 16 (Ps none (kI15 I) (kL15 L) (kR15 R) (kN15 N) 18) := by
  refine ct_of (by decide +kernel) (Nat.le_of_ble_eq_true rfl) (fun F hnm hr => ?_)
  have hnm : F.2.2.2.2.2.2.2.2.1.name = "<init>" := hnm
  show V g F cX4_init RX4 1 1 0 [(0, .ref (g.1 + 15))] [] I L R N 16 2 200
  refine v_aload_n dX4_init_0 rfl 0 rfl ?_
  refine v_obj (k := 15) ol_X4_1 oim oco dX4_init_1 (by decide) (Nat.le_of_ble_eq_true rfl) ?_
  refine v_aload_n dX4_init_4 rfl 0 rfl ?_
  refine v_bipush (v := 100) dX4_init_5 (by decide) ?_
  refine w_newi (len := 100) dX4_init_7 rfl rfl (by decide) 17 1 100 rfl rfl rfl ?_
  refine w_putFr (t := 16) pf_X4_9 ⟨rfl, rfl⟩ hnm dX4_init_9 rfl (by decide) (by decide) (by show 2 < 7; decide) ((show ∀ (Ik : Nat → Int32) (Rk : Nat → Option Nat), (fld g.1 Ik Rk 4).set 2 (.ref (g.1 + 16)) = fld g.1 Ik (va_up Rk 2 (some 16)) 4 from fun _ _ => rfl) _ _) ?_
  refine v_aload_n dX4_init_12 rfl 0 rfl ?_
  refine v_bipush (v := 100) dX4_init_13 (by decide) ?_
  refine w_newi (len := 100) dX4_init_15 rfl rfl (by decide) 18 0 0 rfl rfl rfl ?_
  refine w_putFr (t := 17) pf_X4_13 ⟨rfl, rfl⟩ hnm dX4_init_17 rfl (by decide) (by decide) (by show 3 < 7; decide) ((show ∀ (Ik : Nat → Int32) (Rk : Nat → Option Nat), (fld g.1 Ik Rk 4).set 3 (.ref (g.1 + 17)) = fld g.1 Ik (va_up Rk 3 (some 17)) 4 from fun _ _ => rfl) _ _) ?_
  exact v_vret hr dX4_init_20 (⟨rfl, rfl, rfl, rfl, rfl, rfl⟩)
def kI18 (I : Ty) : Ty := (va_up I 19 Zi)
def kL18 (L : TL) : TL := L
def kR18 (R : TR) : TR := (rput R 18 4 19)
def kN18 (N : TN) : TN := (va_up N 19 20)
set_option maxRecDepth 100000 in
set_option maxHeartbeats 1000000 in
theorem c_mk18 {g : Gl} {I : Ty} {L : TL} {R : TR} {N : TN} : Ct g yX0_init cX0_init 1 none 1 1 20 [.ref (g.1 + 18)] I L R N 19 (Ps none (kI18 I) (kL18 L) (kR18 R) (kN18 N) 20) := by
  refine ct_of (by decide +kernel) (Nat.le_of_ble_eq_true rfl) (fun F hnm hr => ?_)
  have hnm : F.2.2.2.2.2.2.2.2.1.name = "<init>" := hnm
  show V g F cX0_init RX0 1 1 0 [(0, .ref (g.1 + 18))] [] I L R N 19 1 20
  refine v_aload_n dX0_init_0 rfl 0 rfl ?_
  refine v_obj (k := 18) ol_X0_3 oim oco dX0_init_1 (by decide) (Nat.le_of_ble_eq_true rfl) ?_
  refine v_aload_n dX0_init_4 rfl 0 rfl ?_
  refine v_bipush (v := 20) dX0_init_5 (by decide) ?_
  refine w_newi (len := 20) dX0_init_7 rfl rfl (by decide) 20 0 0 rfl rfl rfl ?_
  refine w_putFr (t := 19) pf_X0_11 ⟨rfl, rfl⟩ hnm dX0_init_9 rfl (by decide) (by decide) (by show 4 < 5; decide) ((show ∀ (Ik : Nat → Int32) (Rk : Nat → Option Nat), (fld g.1 Ik Rk 0).set 4 (.ref (g.1 + 19)) = fld g.1 Ik (va_up Rk 4 (some 19)) 0 from fun _ _ => rfl) _ _) ?_
  exact v_vret hr dX0_init_12 (⟨rfl, rfl, rfl, rfl, rfl, rfl⟩)
def kI21 (I : Ty) : Ty := (wr I 21 0 0)
def kL21 (L : TL) : TL := L
def kR21 (R : TR) : TR := (rput R 21 1 22)
def kN21 (N : TN) : TN := N
set_option maxRecDepth 100000 in
set_option maxHeartbeats 1000000 in
theorem c_mk21 {g : Gl} {I : Ty} {L : TL} {R : TR} {N : TN} : Ct g yX3_init cX3_init 3 none 1 0 0 [.ref (g.1 + 21), .ref (g.1 + 22), .int 0] I L R N 23 (Ps none (kI21 I) (kL21 L) (kR21 R) (kN21 N) 23) := by
  refine ct_of (by decide +kernel) (Nat.le_of_ble_eq_true rfl) (fun F hnm hr => ?_)
  have hnm : F.2.2.2.2.2.2.2.2.1.name = "<init>" := hnm
  show V g F cX3_init RX3 3 1 0 [(0, .ref (g.1 + 21)), (1, .ref (g.1 + 22)), (2, .int 0)] [] I L R N 23 0 0
  refine v_aload_n dX3_init_0 rfl 0 rfl ?_
  refine v_obj (k := 21) ol_X3_1 oim oco dX3_init_1 (by decide) (Nat.le_of_ble_eq_true rfl) ?_
  refine v_aload_n dX3_init_4 rfl 0 rfl ?_
  refine v_aload_n dX3_init_5 rfl 1 rfl ?_
  refine w_putFr (t := 22) pf_X3_7 ⟨rfl, rfl⟩ hnm dX3_init_6 rfl (by decide) (by decide) (by show 1 < 2; decide) ((show ∀ (Ik : Nat → Int32) (Rk : Nat → Option Nat), (fld g.1 Ik Rk 3).set 1 (.ref (g.1 + 22)) = fld g.1 Ik (va_up Rk 1 (some 22)) 3 from fun _ _ => rfl) _ _) ?_
  refine v_aload_n dX3_init_9 rfl 0 rfl ?_
  refine v_iload_n dX3_init_10 rfl 2 rfl ?_
  refine w_putFi pf_X3_13 hnm dX3_init_11 rfl (by decide) (by decide) (by show 0 < 2; decide) ((show ∀ (Ik : Nat → Int32) (Rk : Nat → Option Nat), (fld g.1 Ik Rk 3).set 0 (.int 0) = fld g.1 (va_up Ik 0 0) Rk 3 from fun _ _ => rfl) _ _) ?_
  exact v_vret hr dX3_init_14 (⟨rfl, rfl, rfl, rfl, rfl, rfl⟩)
def fl3 (i : Nat) : Nat → Int32 := fun j => if j < i then 3 else 0
theorem fl3_0 : fl3 0 = Zi := by funext j; exact if_neg (Nat.not_lt_zero j)
theorem fl3_s (I : Ty) (k i : Nat) : wr (va_up I k (fl3 i)) k i 3 = va_up I k (fl3 (i + 1)) := by
  funext x
  show va_up (va_up I k (fl3 i)) k (va_up (va_up I k (fl3 i) k) i 3) x = _
  by_cases e : x = k
  · subst e; rw [up_at, up_at, up_at]; funext j
    by_cases ej : j = i
    · subst ej; rw [up_at]; exact (if_pos (Nat.lt_succ_self _)).symm
    · rw [up_off _ _ ej]; show (if j < i then (3 : Int32) else 0) = if j < i + 1 then 3 else 0
      by_cases h : j < i
      · rw [if_pos h, if_pos (by omega)]
      · rw [if_neg h, if_neg (by omega)]
  · rw [up_off _ _ e, up_off _ _ e, up_off _ _ e]
theorem fl3_i {I : Ty} {k : Nat} (h : I k = Zi) : I = va_up I k (fl3 0) := by
  funext x
  by_cases e : x = k
  · subst e; rw [up_at, fl3_0]; exact h
  · rw [up_off _ _ e]
def kI23 (I : Ty) : Ty := (va_up (va_up (wr (va_up (va_up (va_up (va_up (va_up (va_up (va_up (va_up I 24 Zi) 25 Zi) 26 Zi) 27 Zi) 28 Zi) 29 Zi) 30 Zi) 31 Zi) 23 11 63) 32 Zi) 24 (fl3 16))
def kL23 (L : TL) : TL := L
def kR23 (R : TR) : TR := (rput (rput (rput (rput (rput (rput (rput (rput (rput (rput R 23 0 24) 23 2 25) 23 3 26) 23 4 27) 23 5 28) 23 6 29) 23 7 30) 23 8 31) 23 12 32) 23 10 21)
def kN23 (N : TN) : TN := (va_up (va_up (va_up (va_up (va_up (va_up (va_up (va_up (va_up N 24 16) 25 6) 26 6) 27 6) 28 6) 29 6) 30 6) 31 24) 32 8)
set_option maxRecDepth 100000 in
set_option maxHeartbeats 1000000 in
theorem c_mk23 {g : Gl} {I : Ty} {L : TL} {R : TR} {N : TN} : Ct g yX2_init cX2_init 3 none 1 9 84 [.ref (g.1 + 23), .ref (g.1 + 21)] I L R N 24 (Ps none (kI23 I) (kL23 L) (kR23 R) (kN23 N) 33) := by
  refine ct_of (by decide +kernel) (Nat.le_of_ble_eq_true rfl) (fun F hnm hr => ?_)
  have hnm : F.2.2.2.2.2.2.2.2.1.name = "<init>" := hnm
  show V g F cX2_init RX2 3 1 0 [(0, .ref (g.1 + 23)), (1, .ref (g.1 + 21))] [] I L R N 24 9 84
  refine v_aload_n dX2_init_0 rfl 0 rfl ?_
  refine v_obj (k := 23) ol_X2_3 oim oco dX2_init_1 (by decide) (Nat.le_of_ble_eq_true rfl) ?_
  refine v_aload_n dX2_init_4 rfl 0 rfl ?_
  refine v_bipush (v := 16) dX2_init_5 (by decide) ?_
  refine w_newi (len := 16) dX2_init_7 rfl rfl (by decide) 25 8 68 rfl rfl rfl ?_
  refine w_putFr (t := 24) pf_X2_9 ⟨rfl, rfl⟩ hnm dX2_init_9 rfl (by decide) (by decide) (by show 0 < 13; decide) ((show ∀ (Ik : Nat → Int32) (Rk : Nat → Option Nat), (fld g.1 Ik Rk 2).set 0 (.ref (g.1 + 24)) = fld g.1 Ik (va_up Rk 0 (some 24)) 2 from fun _ _ => rfl) _ _) ?_
  refine v_aload_n dX2_init_12 rfl 0 rfl ?_
  refine v_bipush (v := 6) dX2_init_13 (by decide) ?_
  refine w_newi (len := 6) dX2_init_15 rfl rfl (by decide) 26 7 62 rfl rfl rfl ?_
  refine w_putFr (t := 25) pf_X2_15 ⟨rfl, rfl⟩ hnm dX2_init_17 rfl (by decide) (by decide) (by show 2 < 13; decide) ((show ∀ (Ik : Nat → Int32) (Rk : Nat → Option Nat), (fld g.1 Ik Rk 2).set 2 (.ref (g.1 + 25)) = fld g.1 Ik (va_up Rk 2 (some 25)) 2 from fun _ _ => rfl) _ _) ?_
  refine v_aload_n dX2_init_20 rfl 0 rfl ?_
  refine v_bipush (v := 6) dX2_init_21 (by decide) ?_
  refine w_newi (len := 6) dX2_init_23 rfl rfl (by decide) 27 6 56 rfl rfl rfl ?_
  refine w_putFr (t := 26) pf_X2_18 ⟨rfl, rfl⟩ hnm dX2_init_25 rfl (by decide) (by decide) (by show 3 < 13; decide) ((show ∀ (Ik : Nat → Int32) (Rk : Nat → Option Nat), (fld g.1 Ik Rk 2).set 3 (.ref (g.1 + 26)) = fld g.1 Ik (va_up Rk 3 (some 26)) 2 from fun _ _ => rfl) _ _) ?_
  refine v_aload_n dX2_init_28 rfl 0 rfl ?_
  refine v_bipush (v := 6) dX2_init_29 (by decide) ?_
  refine w_newi (len := 6) dX2_init_31 rfl rfl (by decide) 28 5 50 rfl rfl rfl ?_
  refine w_putFr (t := 27) pf_X2_21 ⟨rfl, rfl⟩ hnm dX2_init_33 rfl (by decide) (by decide) (by show 4 < 13; decide) ((show ∀ (Ik : Nat → Int32) (Rk : Nat → Option Nat), (fld g.1 Ik Rk 2).set 4 (.ref (g.1 + 27)) = fld g.1 Ik (va_up Rk 4 (some 27)) 2 from fun _ _ => rfl) _ _) ?_
  refine v_aload_n dX2_init_36 rfl 0 rfl ?_
  refine v_bipush (v := 6) dX2_init_37 (by decide) ?_
  refine w_newi (len := 6) dX2_init_39 rfl rfl (by decide) 29 4 44 rfl rfl rfl ?_
  refine w_putFr (t := 28) pf_X2_24 ⟨rfl, rfl⟩ hnm dX2_init_41 rfl (by decide) (by decide) (by show 5 < 13; decide) ((show ∀ (Ik : Nat → Int32) (Rk : Nat → Option Nat), (fld g.1 Ik Rk 2).set 5 (.ref (g.1 + 28)) = fld g.1 Ik (va_up Rk 5 (some 28)) 2 from fun _ _ => rfl) _ _) ?_
  refine v_aload_n dX2_init_44 rfl 0 rfl ?_
  refine v_bipush (v := 6) dX2_init_45 (by decide) ?_
  refine w_newi (len := 6) dX2_init_47 rfl rfl (by decide) 30 3 38 rfl rfl rfl ?_
  refine w_putFr (t := 29) pf_X2_27 ⟨rfl, rfl⟩ hnm dX2_init_49 rfl (by decide) (by decide) (by show 6 < 13; decide) ((show ∀ (Ik : Nat → Int32) (Rk : Nat → Option Nat), (fld g.1 Ik Rk 2).set 6 (.ref (g.1 + 29)) = fld g.1 Ik (va_up Rk 6 (some 29)) 2 from fun _ _ => rfl) _ _) ?_
  refine v_aload_n dX2_init_52 rfl 0 rfl ?_
  refine v_bipush (v := 6) dX2_init_53 (by decide) ?_
  refine w_newi (len := 6) dX2_init_55 rfl rfl (by decide) 31 2 32 rfl rfl rfl ?_
  refine w_putFr (t := 30) pf_X2_30 ⟨rfl, rfl⟩ hnm dX2_init_57 rfl (by decide) (by decide) (by show 7 < 13; decide) ((show ∀ (Ik : Nat → Int32) (Rk : Nat → Option Nat), (fld g.1 Ik Rk 2).set 7 (.ref (g.1 + 30)) = fld g.1 Ik (va_up Rk 7 (some 30)) 2 from fun _ _ => rfl) _ _) ?_
  refine v_aload_n dX2_init_60 rfl 0 rfl ?_
  refine v_bipush (v := 24) dX2_init_61 (by decide) ?_
  refine w_newi (len := 24) dX2_init_63 rfl rfl (by decide) 32 1 8 rfl rfl rfl ?_
  refine w_putFr (t := 31) pf_X2_33 ⟨rfl, rfl⟩ hnm dX2_init_65 rfl (by decide) (by decide) (by show 8 < 13; decide) ((show ∀ (Ik : Nat → Int32) (Rk : Nat → Option Nat), (fld g.1 Ik Rk 2).set 8 (.ref (g.1 + 31)) = fld g.1 Ik (va_up Rk 8 (some 31)) 2 from fun _ _ => rfl) _ _) ?_
  refine v_aload_n dX2_init_68 rfl 0 rfl ?_
  refine v_bipush (v := 63) dX2_init_69 (by decide) ?_
  refine w_puti pa_X2_36 dX2_init_71 rfl (by decide) (by decide) (by show 11 < 13; decide) ((show ∀ (Ik : Nat → Int32) (Rk : Nat → Option Nat), (fld g.1 Ik Rk 2).set 11 (.int 63) = fld g.1 (va_up Ik 11 63) Rk 2 from fun _ _ => rfl) _ _) ?_
  refine v_aload_n dX2_init_74 rfl 0 rfl ?_
  refine v_bipush (v := 8) dX2_init_75 (by decide) ?_
  refine w_newi (len := 8) dX2_init_77 rfl rfl (by decide) 33 0 0 rfl rfl rfl ?_
  refine w_putFr (t := 32) pf_X2_42 ⟨rfl, rfl⟩ hnm dX2_init_79 rfl (by decide) (by decide) (by show 12 < 13; decide) ((show ∀ (Ik : Nat → Int32) (Rk : Nat → Option Nat), (fld g.1 Ik Rk 2).set 12 (.ref (g.1 + 32)) = fld g.1 Ik (va_up Rk 12 (some 32)) 2 from fun _ _ => rfl) _ _) ?_
  refine v_aload_n dX2_init_82 rfl 0 rfl ?_
  refine v_aload_n dX2_init_83 rfl 1 rfl ?_
  refine w_putr (t := 21) pa_X2_45 dX2_init_84 rfl (by decide) (by decide) (by show 10 < 13; decide) ((show ∀ (Ik : Nat → Int32) (Rk : Nat → Option Nat), (fld g.1 Ik Rk 2).set 10 (.ref (g.1 + 21)) = fld g.1 Ik (va_up Rk 10 (some 21)) 2 from fun _ _ => rfl) _ _) ?_
  refine v_iconst (v := 0) dX2_init_87 (by decide) ?_
  refine v_istore_n (lv2 := [(2, .int 0), (0, .ref (g.1 + 23)), (1, .ref (g.1 + 21))]) dX2_init_88 rfl (by decide) rfl ?_
  refine v_lv (lv2 := [(2, .int (nI 0)), (0, .ref (g.1 + 23)), (1, .ref (g.1 + 21))]) (by rfl) ?_
  refine v_I (I2 := (va_up (va_up (wr (va_up (va_up (va_up (va_up (va_up (va_up (va_up (va_up I 24 Zi) 25 Zi) 26 Zi) 27 Zi) 28 Zi) 29 Zi) 30 Zi) 31 Zi) 23 11 63) 32 Zi) 24 (fl3 0))) (by exact fl3_i rfl) ?_
  refine dloop (P := fun i => V g F cX2_init RX2 3 1 89 [(2, .int (nI i)), (0, .ref (g.1 + 23)), (1, .ref (g.1 + 21))] [] (va_up (va_up (wr (va_up (va_up (va_up (va_up (va_up (va_up (va_up (va_up I 24 Zi) 25 Zi) 26 Zi) 27 Zi) 28 Zi) 29 Zi) 30 Zi) 31 Zi) 23 11 63) 32 Zi) 24 (fl3 i)) L (rput (rput (rput (rput (rput (rput (rput (rput (rput (rput R 23 0 24) 23 2 25) 23 3 26) 23 4 27) 23 5 28) 23 6 29) 23 7 30) 23 8 31) 23 12 32) 23 10 21) (va_up (va_up (va_up (va_up (va_up (va_up (va_up (va_up (va_up N 24 16) 25 6) 26 6) 27 6) 28 6) 29 6) 30 6) 31 24) 32 8) 33 0 0) 16 ?_ ?_ 0 (Nat.zero_le _)
  · refine v_iload_n dX2_init_89 rfl 0 rfl ?_
    refine v_bipush (v := 16) dX2_init_90 (by decide) ?_
    refine v_icmp_geN (a := 16) (b := 16) (tgt := 108) dX2_init_92 (by decide) rfl rfl (by omega) (by omega) (fun h1 => ?_) (fun h => by exfalso; omega)
    exact v_vret hr dX2_init_108 (⟨rfl, rfl, rfl, rfl, rfl, rfl⟩)
  · intro i hi ih
    refine v_iload_n dX2_init_89 rfl 0 rfl ?_
    refine v_bipush (v := 16) dX2_init_90 (by decide) ?_
    refine v_icmp_geN (a := i) (b := 16) (tgt := 108) dX2_init_92 (by decide) rfl rfl (by omega) (by omega) (fun h => by exfalso; omega) (fun h2 => ?_)
    refine v_aload_n dX2_init_95 rfl 1 rfl ?_
    refine v_get (v := .ref (g.1 + 24)) fa_X2_9 dX2_init_96 rfl (by decide) (by decide) rfl ?_
    refine v_iload_n dX2_init_99 rfl 0 rfl ?_
    refine v_iconst (v := 3) dX2_init_100 (by decide) ?_
    refine v_iastore (len := 16) (j := i) dX2_init_101 rfl (by decide) rfl (by decide) rfl (by omega) ?_
    refine v_inc (v := nI (i + 1)) (lv2 := [(2, .int (nI (i + 1))), (0, .ref (g.1 + 23)), (1, .ref (g.1 + 21))]) dX2_init_102 0 rfl (nx_inc rfl) (by decide) rfl ?_
    refine v_goto (tgt := 89) dX2_init_105 (by decide) ?_
    refine v_I (I2 := (va_up (va_up (wr (va_up (va_up (va_up (va_up (va_up (va_up (va_up (va_up I 24 Zi) 25 Zi) 26 Zi) 27 Zi) 28 Zi) 29 Zi) 30 Zi) 31 Zi) 23 11 63) 32 Zi) 24 (fl3 (i + 1)))) (by exact fl3_s _ _ _) ?_
    exact ih
def kI33 (I : Ty) : Ty := (va_up (va_up (wr (va_up (va_up (va_up (va_up (va_up (va_up (va_up (va_up I 34 Zi) 35 Zi) 36 Zi) 37 Zi) 38 Zi) 39 Zi) 40 Zi) 41 Zi) 33 11 63) 42 Zi) 34 (fl3 16))
def kL33 (L : TL) : TL := L
def kR33 (R : TR) : TR := (rput (rput (rput (rput (rput (rput (rput (rput (rput (rput R 33 0 34) 33 2 35) 33 3 36) 33 4 37) 33 5 38) 33 6 39) 33 7 40) 33 8 41) 33 12 42) 33 10 21)
def kN33 (N : TN) : TN := (va_up (va_up (va_up (va_up (va_up (va_up (va_up (va_up (va_up N 34 16) 35 6) 36 6) 37 6) 38 6) 39 6) 40 6) 41 24) 42 8)
set_option maxRecDepth 100000 in
set_option maxHeartbeats 1000000 in
theorem c_mk33 {g : Gl} {I : Ty} {L : TL} {R : TR} {N : TN} : Ct g yX2_init cX2_init 3 none 1 9 84 [.ref (g.1 + 33), .ref (g.1 + 21)] I L R N 34 (Ps none (kI33 I) (kL33 L) (kR33 R) (kN33 N) 43) := by
  refine ct_of (by decide +kernel) (Nat.le_of_ble_eq_true rfl) (fun F hnm hr => ?_)
  have hnm : F.2.2.2.2.2.2.2.2.1.name = "<init>" := hnm
  show V g F cX2_init RX2 3 1 0 [(0, .ref (g.1 + 33)), (1, .ref (g.1 + 21))] [] I L R N 34 9 84
  refine v_aload_n dX2_init_0 rfl 0 rfl ?_
  refine v_obj (k := 33) ol_X2_3 oim oco dX2_init_1 (by decide) (Nat.le_of_ble_eq_true rfl) ?_
  refine v_aload_n dX2_init_4 rfl 0 rfl ?_
  refine v_bipush (v := 16) dX2_init_5 (by decide) ?_
  refine w_newi (len := 16) dX2_init_7 rfl rfl (by decide) 35 8 68 rfl rfl rfl ?_
  refine w_putFr (t := 34) pf_X2_9 ⟨rfl, rfl⟩ hnm dX2_init_9 rfl (by decide) (by decide) (by show 0 < 13; decide) ((show ∀ (Ik : Nat → Int32) (Rk : Nat → Option Nat), (fld g.1 Ik Rk 2).set 0 (.ref (g.1 + 34)) = fld g.1 Ik (va_up Rk 0 (some 34)) 2 from fun _ _ => rfl) _ _) ?_
  refine v_aload_n dX2_init_12 rfl 0 rfl ?_
  refine v_bipush (v := 6) dX2_init_13 (by decide) ?_
  refine w_newi (len := 6) dX2_init_15 rfl rfl (by decide) 36 7 62 rfl rfl rfl ?_
  refine w_putFr (t := 35) pf_X2_15 ⟨rfl, rfl⟩ hnm dX2_init_17 rfl (by decide) (by decide) (by show 2 < 13; decide) ((show ∀ (Ik : Nat → Int32) (Rk : Nat → Option Nat), (fld g.1 Ik Rk 2).set 2 (.ref (g.1 + 35)) = fld g.1 Ik (va_up Rk 2 (some 35)) 2 from fun _ _ => rfl) _ _) ?_
  refine v_aload_n dX2_init_20 rfl 0 rfl ?_
  refine v_bipush (v := 6) dX2_init_21 (by decide) ?_
  refine w_newi (len := 6) dX2_init_23 rfl rfl (by decide) 37 6 56 rfl rfl rfl ?_
  refine w_putFr (t := 36) pf_X2_18 ⟨rfl, rfl⟩ hnm dX2_init_25 rfl (by decide) (by decide) (by show 3 < 13; decide) ((show ∀ (Ik : Nat → Int32) (Rk : Nat → Option Nat), (fld g.1 Ik Rk 2).set 3 (.ref (g.1 + 36)) = fld g.1 Ik (va_up Rk 3 (some 36)) 2 from fun _ _ => rfl) _ _) ?_
  refine v_aload_n dX2_init_28 rfl 0 rfl ?_
  refine v_bipush (v := 6) dX2_init_29 (by decide) ?_
  refine w_newi (len := 6) dX2_init_31 rfl rfl (by decide) 38 5 50 rfl rfl rfl ?_
  refine w_putFr (t := 37) pf_X2_21 ⟨rfl, rfl⟩ hnm dX2_init_33 rfl (by decide) (by decide) (by show 4 < 13; decide) ((show ∀ (Ik : Nat → Int32) (Rk : Nat → Option Nat), (fld g.1 Ik Rk 2).set 4 (.ref (g.1 + 37)) = fld g.1 Ik (va_up Rk 4 (some 37)) 2 from fun _ _ => rfl) _ _) ?_
  refine v_aload_n dX2_init_36 rfl 0 rfl ?_
  refine v_bipush (v := 6) dX2_init_37 (by decide) ?_
  refine w_newi (len := 6) dX2_init_39 rfl rfl (by decide) 39 4 44 rfl rfl rfl ?_
  refine w_putFr (t := 38) pf_X2_24 ⟨rfl, rfl⟩ hnm dX2_init_41 rfl (by decide) (by decide) (by show 5 < 13; decide) ((show ∀ (Ik : Nat → Int32) (Rk : Nat → Option Nat), (fld g.1 Ik Rk 2).set 5 (.ref (g.1 + 38)) = fld g.1 Ik (va_up Rk 5 (some 38)) 2 from fun _ _ => rfl) _ _) ?_
  refine v_aload_n dX2_init_44 rfl 0 rfl ?_
  refine v_bipush (v := 6) dX2_init_45 (by decide) ?_
  refine w_newi (len := 6) dX2_init_47 rfl rfl (by decide) 40 3 38 rfl rfl rfl ?_
  refine w_putFr (t := 39) pf_X2_27 ⟨rfl, rfl⟩ hnm dX2_init_49 rfl (by decide) (by decide) (by show 6 < 13; decide) ((show ∀ (Ik : Nat → Int32) (Rk : Nat → Option Nat), (fld g.1 Ik Rk 2).set 6 (.ref (g.1 + 39)) = fld g.1 Ik (va_up Rk 6 (some 39)) 2 from fun _ _ => rfl) _ _) ?_
  refine v_aload_n dX2_init_52 rfl 0 rfl ?_
  refine v_bipush (v := 6) dX2_init_53 (by decide) ?_
  refine w_newi (len := 6) dX2_init_55 rfl rfl (by decide) 41 2 32 rfl rfl rfl ?_
  refine w_putFr (t := 40) pf_X2_30 ⟨rfl, rfl⟩ hnm dX2_init_57 rfl (by decide) (by decide) (by show 7 < 13; decide) ((show ∀ (Ik : Nat → Int32) (Rk : Nat → Option Nat), (fld g.1 Ik Rk 2).set 7 (.ref (g.1 + 40)) = fld g.1 Ik (va_up Rk 7 (some 40)) 2 from fun _ _ => rfl) _ _) ?_
  refine v_aload_n dX2_init_60 rfl 0 rfl ?_
  refine v_bipush (v := 24) dX2_init_61 (by decide) ?_
  refine w_newi (len := 24) dX2_init_63 rfl rfl (by decide) 42 1 8 rfl rfl rfl ?_
  refine w_putFr (t := 41) pf_X2_33 ⟨rfl, rfl⟩ hnm dX2_init_65 rfl (by decide) (by decide) (by show 8 < 13; decide) ((show ∀ (Ik : Nat → Int32) (Rk : Nat → Option Nat), (fld g.1 Ik Rk 2).set 8 (.ref (g.1 + 41)) = fld g.1 Ik (va_up Rk 8 (some 41)) 2 from fun _ _ => rfl) _ _) ?_
  refine v_aload_n dX2_init_68 rfl 0 rfl ?_
  refine v_bipush (v := 63) dX2_init_69 (by decide) ?_
  refine w_puti pa_X2_36 dX2_init_71 rfl (by decide) (by decide) (by show 11 < 13; decide) ((show ∀ (Ik : Nat → Int32) (Rk : Nat → Option Nat), (fld g.1 Ik Rk 2).set 11 (.int 63) = fld g.1 (va_up Ik 11 63) Rk 2 from fun _ _ => rfl) _ _) ?_
  refine v_aload_n dX2_init_74 rfl 0 rfl ?_
  refine v_bipush (v := 8) dX2_init_75 (by decide) ?_
  refine w_newi (len := 8) dX2_init_77 rfl rfl (by decide) 43 0 0 rfl rfl rfl ?_
  refine w_putFr (t := 42) pf_X2_42 ⟨rfl, rfl⟩ hnm dX2_init_79 rfl (by decide) (by decide) (by show 12 < 13; decide) ((show ∀ (Ik : Nat → Int32) (Rk : Nat → Option Nat), (fld g.1 Ik Rk 2).set 12 (.ref (g.1 + 42)) = fld g.1 Ik (va_up Rk 12 (some 42)) 2 from fun _ _ => rfl) _ _) ?_
  refine v_aload_n dX2_init_82 rfl 0 rfl ?_
  refine v_aload_n dX2_init_83 rfl 1 rfl ?_
  refine w_putr (t := 21) pa_X2_45 dX2_init_84 rfl (by decide) (by decide) (by show 10 < 13; decide) ((show ∀ (Ik : Nat → Int32) (Rk : Nat → Option Nat), (fld g.1 Ik Rk 2).set 10 (.ref (g.1 + 21)) = fld g.1 Ik (va_up Rk 10 (some 21)) 2 from fun _ _ => rfl) _ _) ?_
  refine v_iconst (v := 0) dX2_init_87 (by decide) ?_
  refine v_istore_n (lv2 := [(2, .int 0), (0, .ref (g.1 + 33)), (1, .ref (g.1 + 21))]) dX2_init_88 rfl (by decide) rfl ?_
  refine v_lv (lv2 := [(2, .int (nI 0)), (0, .ref (g.1 + 33)), (1, .ref (g.1 + 21))]) (by rfl) ?_
  refine v_I (I2 := (va_up (va_up (wr (va_up (va_up (va_up (va_up (va_up (va_up (va_up (va_up I 34 Zi) 35 Zi) 36 Zi) 37 Zi) 38 Zi) 39 Zi) 40 Zi) 41 Zi) 33 11 63) 42 Zi) 34 (fl3 0))) (by exact fl3_i rfl) ?_
  refine dloop (P := fun i => V g F cX2_init RX2 3 1 89 [(2, .int (nI i)), (0, .ref (g.1 + 33)), (1, .ref (g.1 + 21))] [] (va_up (va_up (wr (va_up (va_up (va_up (va_up (va_up (va_up (va_up (va_up I 34 Zi) 35 Zi) 36 Zi) 37 Zi) 38 Zi) 39 Zi) 40 Zi) 41 Zi) 33 11 63) 42 Zi) 34 (fl3 i)) L (rput (rput (rput (rput (rput (rput (rput (rput (rput (rput R 33 0 34) 33 2 35) 33 3 36) 33 4 37) 33 5 38) 33 6 39) 33 7 40) 33 8 41) 33 12 42) 33 10 21) (va_up (va_up (va_up (va_up (va_up (va_up (va_up (va_up (va_up N 34 16) 35 6) 36 6) 37 6) 38 6) 39 6) 40 6) 41 24) 42 8) 43 0 0) 16 ?_ ?_ 0 (Nat.zero_le _)
  · refine v_iload_n dX2_init_89 rfl 0 rfl ?_
    refine v_bipush (v := 16) dX2_init_90 (by decide) ?_
    refine v_icmp_geN (a := 16) (b := 16) (tgt := 108) dX2_init_92 (by decide) rfl rfl (by omega) (by omega) (fun h1 => ?_) (fun h => by exfalso; omega)
    exact v_vret hr dX2_init_108 (⟨rfl, rfl, rfl, rfl, rfl, rfl⟩)
  · intro i hi ih
    refine v_iload_n dX2_init_89 rfl 0 rfl ?_
    refine v_bipush (v := 16) dX2_init_90 (by decide) ?_
    refine v_icmp_geN (a := i) (b := 16) (tgt := 108) dX2_init_92 (by decide) rfl rfl (by omega) (by omega) (fun h => by exfalso; omega) (fun h2 => ?_)
    refine v_aload_n dX2_init_95 rfl 1 rfl ?_
    refine v_get (v := .ref (g.1 + 34)) fa_X2_9 dX2_init_96 rfl (by decide) (by decide) rfl ?_
    refine v_iload_n dX2_init_99 rfl 0 rfl ?_
    refine v_iconst (v := 3) dX2_init_100 (by decide) ?_
    refine v_iastore (len := 16) (j := i) dX2_init_101 rfl (by decide) rfl (by decide) rfl (by omega) ?_
    refine v_inc (v := nI (i + 1)) (lv2 := [(2, .int (nI (i + 1))), (0, .ref (g.1 + 33)), (1, .ref (g.1 + 21))]) dX2_init_102 0 rfl (nx_inc rfl) (by decide) rfl ?_
    refine v_goto (tgt := 89) dX2_init_105 (by decide) ?_
    refine v_I (I2 := (va_up (va_up (wr (va_up (va_up (va_up (va_up (va_up (va_up (va_up (va_up I 34 Zi) 35 Zi) 36 Zi) 37 Zi) 38 Zi) 39 Zi) 40 Zi) 41 Zi) 33 11 63) 42 Zi) 34 (fl3 (i + 1)))) (by exact fl3_s _ _ _) ?_
    exact ih
def kI43 (I : Ty) : Ty := (va_up (va_up (wr (va_up (va_up (va_up (va_up (va_up (va_up (va_up (va_up I 44 Zi) 45 Zi) 46 Zi) 47 Zi) 48 Zi) 49 Zi) 50 Zi) 51 Zi) 43 11 63) 52 Zi) 44 (fl3 16))
def kL43 (L : TL) : TL := L
def kR43 (R : TR) : TR := (rput (rput (rput (rput (rput (rput (rput (rput (rput (rput R 43 0 44) 43 2 45) 43 3 46) 43 4 47) 43 5 48) 43 6 49) 43 7 50) 43 8 51) 43 12 52) 43 10 21)
def kN43 (N : TN) : TN := (va_up (va_up (va_up (va_up (va_up (va_up (va_up (va_up (va_up N 44 16) 45 6) 46 6) 47 6) 48 6) 49 6) 50 6) 51 24) 52 8)
set_option maxRecDepth 100000 in
set_option maxHeartbeats 1000000 in
theorem c_mk43 {g : Gl} {I : Ty} {L : TL} {R : TR} {N : TN} : Ct g yX2_init cX2_init 3 none 1 9 84 [.ref (g.1 + 43), .ref (g.1 + 21)] I L R N 44 (Ps none (kI43 I) (kL43 L) (kR43 R) (kN43 N) 53) := by
  refine ct_of (by decide +kernel) (Nat.le_of_ble_eq_true rfl) (fun F hnm hr => ?_)
  have hnm : F.2.2.2.2.2.2.2.2.1.name = "<init>" := hnm
  show V g F cX2_init RX2 3 1 0 [(0, .ref (g.1 + 43)), (1, .ref (g.1 + 21))] [] I L R N 44 9 84
  refine v_aload_n dX2_init_0 rfl 0 rfl ?_
  refine v_obj (k := 43) ol_X2_3 oim oco dX2_init_1 (by decide) (Nat.le_of_ble_eq_true rfl) ?_
  refine v_aload_n dX2_init_4 rfl 0 rfl ?_
  refine v_bipush (v := 16) dX2_init_5 (by decide) ?_
  refine w_newi (len := 16) dX2_init_7 rfl rfl (by decide) 45 8 68 rfl rfl rfl ?_
  refine w_putFr (t := 44) pf_X2_9 ⟨rfl, rfl⟩ hnm dX2_init_9 rfl (by decide) (by decide) (by show 0 < 13; decide) ((show ∀ (Ik : Nat → Int32) (Rk : Nat → Option Nat), (fld g.1 Ik Rk 2).set 0 (.ref (g.1 + 44)) = fld g.1 Ik (va_up Rk 0 (some 44)) 2 from fun _ _ => rfl) _ _) ?_
  refine v_aload_n dX2_init_12 rfl 0 rfl ?_
  refine v_bipush (v := 6) dX2_init_13 (by decide) ?_
  refine w_newi (len := 6) dX2_init_15 rfl rfl (by decide) 46 7 62 rfl rfl rfl ?_
  refine w_putFr (t := 45) pf_X2_15 ⟨rfl, rfl⟩ hnm dX2_init_17 rfl (by decide) (by decide) (by show 2 < 13; decide) ((show ∀ (Ik : Nat → Int32) (Rk : Nat → Option Nat), (fld g.1 Ik Rk 2).set 2 (.ref (g.1 + 45)) = fld g.1 Ik (va_up Rk 2 (some 45)) 2 from fun _ _ => rfl) _ _) ?_
  refine v_aload_n dX2_init_20 rfl 0 rfl ?_
  refine v_bipush (v := 6) dX2_init_21 (by decide) ?_
  refine w_newi (len := 6) dX2_init_23 rfl rfl (by decide) 47 6 56 rfl rfl rfl ?_
  refine w_putFr (t := 46) pf_X2_18 ⟨rfl, rfl⟩ hnm dX2_init_25 rfl (by decide) (by decide) (by show 3 < 13; decide) ((show ∀ (Ik : Nat → Int32) (Rk : Nat → Option Nat), (fld g.1 Ik Rk 2).set 3 (.ref (g.1 + 46)) = fld g.1 Ik (va_up Rk 3 (some 46)) 2 from fun _ _ => rfl) _ _) ?_
  refine v_aload_n dX2_init_28 rfl 0 rfl ?_
  refine v_bipush (v := 6) dX2_init_29 (by decide) ?_
  refine w_newi (len := 6) dX2_init_31 rfl rfl (by decide) 48 5 50 rfl rfl rfl ?_
  refine w_putFr (t := 47) pf_X2_21 ⟨rfl, rfl⟩ hnm dX2_init_33 rfl (by decide) (by decide) (by show 4 < 13; decide) ((show ∀ (Ik : Nat → Int32) (Rk : Nat → Option Nat), (fld g.1 Ik Rk 2).set 4 (.ref (g.1 + 47)) = fld g.1 Ik (va_up Rk 4 (some 47)) 2 from fun _ _ => rfl) _ _) ?_
  refine v_aload_n dX2_init_36 rfl 0 rfl ?_
  refine v_bipush (v := 6) dX2_init_37 (by decide) ?_
  refine w_newi (len := 6) dX2_init_39 rfl rfl (by decide) 49 4 44 rfl rfl rfl ?_
  refine w_putFr (t := 48) pf_X2_24 ⟨rfl, rfl⟩ hnm dX2_init_41 rfl (by decide) (by decide) (by show 5 < 13; decide) ((show ∀ (Ik : Nat → Int32) (Rk : Nat → Option Nat), (fld g.1 Ik Rk 2).set 5 (.ref (g.1 + 48)) = fld g.1 Ik (va_up Rk 5 (some 48)) 2 from fun _ _ => rfl) _ _) ?_
  refine v_aload_n dX2_init_44 rfl 0 rfl ?_
  refine v_bipush (v := 6) dX2_init_45 (by decide) ?_
  refine w_newi (len := 6) dX2_init_47 rfl rfl (by decide) 50 3 38 rfl rfl rfl ?_
  refine w_putFr (t := 49) pf_X2_27 ⟨rfl, rfl⟩ hnm dX2_init_49 rfl (by decide) (by decide) (by show 6 < 13; decide) ((show ∀ (Ik : Nat → Int32) (Rk : Nat → Option Nat), (fld g.1 Ik Rk 2).set 6 (.ref (g.1 + 49)) = fld g.1 Ik (va_up Rk 6 (some 49)) 2 from fun _ _ => rfl) _ _) ?_
  refine v_aload_n dX2_init_52 rfl 0 rfl ?_
  refine v_bipush (v := 6) dX2_init_53 (by decide) ?_
  refine w_newi (len := 6) dX2_init_55 rfl rfl (by decide) 51 2 32 rfl rfl rfl ?_
  refine w_putFr (t := 50) pf_X2_30 ⟨rfl, rfl⟩ hnm dX2_init_57 rfl (by decide) (by decide) (by show 7 < 13; decide) ((show ∀ (Ik : Nat → Int32) (Rk : Nat → Option Nat), (fld g.1 Ik Rk 2).set 7 (.ref (g.1 + 50)) = fld g.1 Ik (va_up Rk 7 (some 50)) 2 from fun _ _ => rfl) _ _) ?_
  refine v_aload_n dX2_init_60 rfl 0 rfl ?_
  refine v_bipush (v := 24) dX2_init_61 (by decide) ?_
  refine w_newi (len := 24) dX2_init_63 rfl rfl (by decide) 52 1 8 rfl rfl rfl ?_
  refine w_putFr (t := 51) pf_X2_33 ⟨rfl, rfl⟩ hnm dX2_init_65 rfl (by decide) (by decide) (by show 8 < 13; decide) ((show ∀ (Ik : Nat → Int32) (Rk : Nat → Option Nat), (fld g.1 Ik Rk 2).set 8 (.ref (g.1 + 51)) = fld g.1 Ik (va_up Rk 8 (some 51)) 2 from fun _ _ => rfl) _ _) ?_
  refine v_aload_n dX2_init_68 rfl 0 rfl ?_
  refine v_bipush (v := 63) dX2_init_69 (by decide) ?_
  refine w_puti pa_X2_36 dX2_init_71 rfl (by decide) (by decide) (by show 11 < 13; decide) ((show ∀ (Ik : Nat → Int32) (Rk : Nat → Option Nat), (fld g.1 Ik Rk 2).set 11 (.int 63) = fld g.1 (va_up Ik 11 63) Rk 2 from fun _ _ => rfl) _ _) ?_
  refine v_aload_n dX2_init_74 rfl 0 rfl ?_
  refine v_bipush (v := 8) dX2_init_75 (by decide) ?_
  refine w_newi (len := 8) dX2_init_77 rfl rfl (by decide) 53 0 0 rfl rfl rfl ?_
  refine w_putFr (t := 52) pf_X2_42 ⟨rfl, rfl⟩ hnm dX2_init_79 rfl (by decide) (by decide) (by show 12 < 13; decide) ((show ∀ (Ik : Nat → Int32) (Rk : Nat → Option Nat), (fld g.1 Ik Rk 2).set 12 (.ref (g.1 + 52)) = fld g.1 Ik (va_up Rk 12 (some 52)) 2 from fun _ _ => rfl) _ _) ?_
  refine v_aload_n dX2_init_82 rfl 0 rfl ?_
  refine v_aload_n dX2_init_83 rfl 1 rfl ?_
  refine w_putr (t := 21) pa_X2_45 dX2_init_84 rfl (by decide) (by decide) (by show 10 < 13; decide) ((show ∀ (Ik : Nat → Int32) (Rk : Nat → Option Nat), (fld g.1 Ik Rk 2).set 10 (.ref (g.1 + 21)) = fld g.1 Ik (va_up Rk 10 (some 21)) 2 from fun _ _ => rfl) _ _) ?_
  refine v_iconst (v := 0) dX2_init_87 (by decide) ?_
  refine v_istore_n (lv2 := [(2, .int 0), (0, .ref (g.1 + 43)), (1, .ref (g.1 + 21))]) dX2_init_88 rfl (by decide) rfl ?_
  refine v_lv (lv2 := [(2, .int (nI 0)), (0, .ref (g.1 + 43)), (1, .ref (g.1 + 21))]) (by rfl) ?_
  refine v_I (I2 := (va_up (va_up (wr (va_up (va_up (va_up (va_up (va_up (va_up (va_up (va_up I 44 Zi) 45 Zi) 46 Zi) 47 Zi) 48 Zi) 49 Zi) 50 Zi) 51 Zi) 43 11 63) 52 Zi) 44 (fl3 0))) (by exact fl3_i rfl) ?_
  refine dloop (P := fun i => V g F cX2_init RX2 3 1 89 [(2, .int (nI i)), (0, .ref (g.1 + 43)), (1, .ref (g.1 + 21))] [] (va_up (va_up (wr (va_up (va_up (va_up (va_up (va_up (va_up (va_up (va_up I 44 Zi) 45 Zi) 46 Zi) 47 Zi) 48 Zi) 49 Zi) 50 Zi) 51 Zi) 43 11 63) 52 Zi) 44 (fl3 i)) L (rput (rput (rput (rput (rput (rput (rput (rput (rput (rput R 43 0 44) 43 2 45) 43 3 46) 43 4 47) 43 5 48) 43 6 49) 43 7 50) 43 8 51) 43 12 52) 43 10 21) (va_up (va_up (va_up (va_up (va_up (va_up (va_up (va_up (va_up N 44 16) 45 6) 46 6) 47 6) 48 6) 49 6) 50 6) 51 24) 52 8) 53 0 0) 16 ?_ ?_ 0 (Nat.zero_le _)
  · refine v_iload_n dX2_init_89 rfl 0 rfl ?_
    refine v_bipush (v := 16) dX2_init_90 (by decide) ?_
    refine v_icmp_geN (a := 16) (b := 16) (tgt := 108) dX2_init_92 (by decide) rfl rfl (by omega) (by omega) (fun h1 => ?_) (fun h => by exfalso; omega)
    exact v_vret hr dX2_init_108 (⟨rfl, rfl, rfl, rfl, rfl, rfl⟩)
  · intro i hi ih
    refine v_iload_n dX2_init_89 rfl 0 rfl ?_
    refine v_bipush (v := 16) dX2_init_90 (by decide) ?_
    refine v_icmp_geN (a := i) (b := 16) (tgt := 108) dX2_init_92 (by decide) rfl rfl (by omega) (by omega) (fun h => by exfalso; omega) (fun h2 => ?_)
    refine v_aload_n dX2_init_95 rfl 1 rfl ?_
    refine v_get (v := .ref (g.1 + 44)) fa_X2_9 dX2_init_96 rfl (by decide) (by decide) rfl ?_
    refine v_iload_n dX2_init_99 rfl 0 rfl ?_
    refine v_iconst (v := 3) dX2_init_100 (by decide) ?_
    refine v_iastore (len := 16) (j := i) dX2_init_101 rfl (by decide) rfl (by decide) rfl (by omega) ?_
    refine v_inc (v := nI (i + 1)) (lv2 := [(2, .int (nI (i + 1))), (0, .ref (g.1 + 43)), (1, .ref (g.1 + 21))]) dX2_init_102 0 rfl (nx_inc rfl) (by decide) rfl ?_
    refine v_goto (tgt := 89) dX2_init_105 (by decide) ?_
    refine v_I (I2 := (va_up (va_up (wr (va_up (va_up (va_up (va_up (va_up (va_up (va_up (va_up I 44 Zi) 45 Zi) 46 Zi) 47 Zi) 48 Zi) 49 Zi) 50 Zi) 51 Zi) 43 11 63) 52 Zi) 44 (fl3 (i + 1)))) (by exact fl3_s _ _ _) ?_
    exact ih
def kI53 (I : Ty) : Ty := (wr I 53 0 (-1))
def kL53 (L : TL) : TL := (va_up L 54 Zl)
def kR53 (R : TR) : TR := (rput R 53 2 54)
def kN53 (N : TN) : TN := (va_up N 54 60)
set_option maxRecDepth 100000 in
set_option maxHeartbeats 1000000 in
theorem c_mk53 {g : Gl} {I : Ty} {L : TL} {R : TR} {N : TN} : Ct g yX6_init cX6_init 1 none 1 1 60 [.ref (g.1 + 53)] I L R N 54 (Ps none (kI53 I) (kL53 L) (kR53 R) (kN53 N) 55) := by
  refine ct_of (by decide +kernel) (Nat.le_of_ble_eq_true rfl) (fun F hnm hr => ?_)
  have hnm : F.2.2.2.2.2.2.2.2.1.name = "<init>" := hnm
  show V g F cX6_init RX6 1 1 0 [(0, .ref (g.1 + 53))] [] I L R N 54 1 60
  refine v_aload_n dX6_init_0 rfl 0 rfl ?_
  refine v_obj (k := 53) ol_X6_1 oim oco dX6_init_1 (by decide) (Nat.le_of_ble_eq_true rfl) ?_
  refine v_aload_n dX6_init_4 rfl 0 rfl ?_
  refine v_iconst (v := (-1)) dX6_init_5 (by decide) ?_
  refine w_puti pa_X6_7 dX6_init_6 rfl (by decide) (by decide) (by show 0 < 3; decide) ((show ∀ (Ik : Nat → Int32) (Rk : Nat → Option Nat), (fld g.1 Ik Rk 6).set 0 (.int (-1)) = fld g.1 (va_up Ik 0 (-1)) Rk 6 from fun _ _ => rfl) _ _) ?_
  refine v_aload_n dX6_init_9 rfl 0 rfl ?_
  refine v_bipush (v := 60) dX6_init_10 (by decide) ?_
  refine w_newl (len := 60) dX6_init_12 rfl rfl (by decide) 55 0 0 rfl rfl rfl ?_
  refine w_putFr (t := 54) pf_X6_13 ⟨rfl, rfl⟩ hnm dX6_init_14 rfl (by decide) (by decide) (by show 2 < 3; decide) ((show ∀ (Ik : Nat → Int32) (Rk : Nat → Option Nat), (fld g.1 Ik Rk 6).set 2 (.ref (g.1 + 54)) = fld g.1 Ik (va_up Rk 2 (some 54)) 6 from fun _ _ => rfl) _ _) ?_
  exact v_vret hr dX6_init_17 (⟨rfl, rfl, rfl, rfl, rfl, rfl⟩)
def kI55 (I : Ty) : Ty := (wr I 55 0 (-1))
def kL55 (L : TL) : TL := (va_up L 56 Zl)
def kR55 (R : TR) : TR := (rput R 55 2 56)
def kN55 (N : TN) : TN := (va_up N 56 60)
set_option maxRecDepth 100000 in
set_option maxHeartbeats 1000000 in
theorem c_mk55 {g : Gl} {I : Ty} {L : TL} {R : TR} {N : TN} : Ct g yX6_init cX6_init 1 none 1 1 60 [.ref (g.1 + 55)] I L R N 56 (Ps none (kI55 I) (kL55 L) (kR55 R) (kN55 N) 57) := by
  refine ct_of (by decide +kernel) (Nat.le_of_ble_eq_true rfl) (fun F hnm hr => ?_)
  have hnm : F.2.2.2.2.2.2.2.2.1.name = "<init>" := hnm
  show V g F cX6_init RX6 1 1 0 [(0, .ref (g.1 + 55))] [] I L R N 56 1 60
  refine v_aload_n dX6_init_0 rfl 0 rfl ?_
  refine v_obj (k := 55) ol_X6_1 oim oco dX6_init_1 (by decide) (Nat.le_of_ble_eq_true rfl) ?_
  refine v_aload_n dX6_init_4 rfl 0 rfl ?_
  refine v_iconst (v := (-1)) dX6_init_5 (by decide) ?_
  refine w_puti pa_X6_7 dX6_init_6 rfl (by decide) (by decide) (by show 0 < 3; decide) ((show ∀ (Ik : Nat → Int32) (Rk : Nat → Option Nat), (fld g.1 Ik Rk 6).set 0 (.int (-1)) = fld g.1 (va_up Ik 0 (-1)) Rk 6 from fun _ _ => rfl) _ _) ?_
  refine v_aload_n dX6_init_9 rfl 0 rfl ?_
  refine v_bipush (v := 60) dX6_init_10 (by decide) ?_
  refine w_newl (len := 60) dX6_init_12 rfl rfl (by decide) 57 0 0 rfl rfl rfl ?_
  refine w_putFr (t := 56) pf_X6_13 ⟨rfl, rfl⟩ hnm dX6_init_14 rfl (by decide) (by decide) (by show 2 < 3; decide) ((show ∀ (Ik : Nat → Int32) (Rk : Nat → Option Nat), (fld g.1 Ik Rk 6).set 2 (.ref (g.1 + 56)) = fld g.1 Ik (va_up Rk 2 (some 56)) 6 from fun _ _ => rfl) _ _) ?_
  exact v_vret hr dX6_init_17 (⟨rfl, rfl, rfl, rfl, rfl, rfl⟩)
def kI57 (I : Ty) : Ty := (wr I 57 0 (-1))
def kL57 (L : TL) : TL := (va_up L 58 Zl)
def kR57 (R : TR) : TR := (rput R 57 2 58)
def kN57 (N : TN) : TN := (va_up N 58 60)
set_option maxRecDepth 100000 in
set_option maxHeartbeats 1000000 in
theorem c_mk57 {g : Gl} {I : Ty} {L : TL} {R : TR} {N : TN} : Ct g yX6_init cX6_init 1 none 1 1 60 [.ref (g.1 + 57)] I L R N 58 (Ps none (kI57 I) (kL57 L) (kR57 R) (kN57 N) 59) := by
  refine ct_of (by decide +kernel) (Nat.le_of_ble_eq_true rfl) (fun F hnm hr => ?_)
  have hnm : F.2.2.2.2.2.2.2.2.1.name = "<init>" := hnm
  show V g F cX6_init RX6 1 1 0 [(0, .ref (g.1 + 57))] [] I L R N 58 1 60
  refine v_aload_n dX6_init_0 rfl 0 rfl ?_
  refine v_obj (k := 57) ol_X6_1 oim oco dX6_init_1 (by decide) (Nat.le_of_ble_eq_true rfl) ?_
  refine v_aload_n dX6_init_4 rfl 0 rfl ?_
  refine v_iconst (v := (-1)) dX6_init_5 (by decide) ?_
  refine w_puti pa_X6_7 dX6_init_6 rfl (by decide) (by decide) (by show 0 < 3; decide) ((show ∀ (Ik : Nat → Int32) (Rk : Nat → Option Nat), (fld g.1 Ik Rk 6).set 0 (.int (-1)) = fld g.1 (va_up Ik 0 (-1)) Rk 6 from fun _ _ => rfl) _ _) ?_
  refine v_aload_n dX6_init_9 rfl 0 rfl ?_
  refine v_bipush (v := 60) dX6_init_10 (by decide) ?_
  refine w_newl (len := 60) dX6_init_12 rfl rfl (by decide) 59 0 0 rfl rfl rfl ?_
  refine w_putFr (t := 58) pf_X6_13 ⟨rfl, rfl⟩ hnm dX6_init_14 rfl (by decide) (by decide) (by show 2 < 3; decide) ((show ∀ (Ik : Nat → Int32) (Rk : Nat → Option Nat), (fld g.1 Ik Rk 6).set 2 (.ref (g.1 + 58)) = fld g.1 Ik (va_up Rk 2 (some 58)) 6 from fun _ _ => rfl) _ _) ?_
  exact v_vret hr dX6_init_17 (⟨rfl, rfl, rfl, rfl, rfl, rfl⟩)
def kI59 (I : Ty) : Ty := (wr I 59 0 (-1))
def kL59 (L : TL) : TL := (va_up L 60 Zl)
def kR59 (R : TR) : TR := (rput R 59 2 60)
def kN59 (N : TN) : TN := (va_up N 60 60)
set_option maxRecDepth 100000 in
set_option maxHeartbeats 1000000 in
theorem c_mk59 {g : Gl} {I : Ty} {L : TL} {R : TR} {N : TN} : Ct g yX6_init cX6_init 1 none 1 1 60 [.ref (g.1 + 59)] I L R N 60 (Ps none (kI59 I) (kL59 L) (kR59 R) (kN59 N) 61) := by
  refine ct_of (by decide +kernel) (Nat.le_of_ble_eq_true rfl) (fun F hnm hr => ?_)
  have hnm : F.2.2.2.2.2.2.2.2.1.name = "<init>" := hnm
  show V g F cX6_init RX6 1 1 0 [(0, .ref (g.1 + 59))] [] I L R N 60 1 60
  refine v_aload_n dX6_init_0 rfl 0 rfl ?_
  refine v_obj (k := 59) ol_X6_1 oim oco dX6_init_1 (by decide) (Nat.le_of_ble_eq_true rfl) ?_
  refine v_aload_n dX6_init_4 rfl 0 rfl ?_
  refine v_iconst (v := (-1)) dX6_init_5 (by decide) ?_
  refine w_puti pa_X6_7 dX6_init_6 rfl (by decide) (by decide) (by show 0 < 3; decide) ((show ∀ (Ik : Nat → Int32) (Rk : Nat → Option Nat), (fld g.1 Ik Rk 6).set 0 (.int (-1)) = fld g.1 (va_up Ik 0 (-1)) Rk 6 from fun _ _ => rfl) _ _) ?_
  refine v_aload_n dX6_init_9 rfl 0 rfl ?_
  refine v_bipush (v := 60) dX6_init_10 (by decide) ?_
  refine w_newl (len := 60) dX6_init_12 rfl rfl (by decide) 61 0 0 rfl rfl rfl ?_
  refine w_putFr (t := 60) pf_X6_13 ⟨rfl, rfl⟩ hnm dX6_init_14 rfl (by decide) (by decide) (by show 2 < 3; decide) ((show ∀ (Ik : Nat → Int32) (Rk : Nat → Option Nat), (fld g.1 Ik Rk 6).set 2 (.ref (g.1 + 60)) = fld g.1 Ik (va_up Rk 2 (some 60)) 6 from fun _ _ => rfl) _ _) ?_
  exact v_vret hr dX6_init_17 (⟨rfl, rfl, rfl, rfl, rfl, rfl⟩)
def kI61 (I : Ty) : Ty := (wr I 61 0 (-1))
def kL61 (L : TL) : TL := (va_up L 62 Zl)
def kR61 (R : TR) : TR := (rput R 61 2 62)
def kN61 (N : TN) : TN := (va_up N 62 60)
set_option maxRecDepth 100000 in
set_option maxHeartbeats 1000000 in
theorem c_mk61 {g : Gl} {I : Ty} {L : TL} {R : TR} {N : TN} : Ct g yX6_init cX6_init 1 none 1 1 60 [.ref (g.1 + 61)] I L R N 62 (Ps none (kI61 I) (kL61 L) (kR61 R) (kN61 N) 63) := by
  refine ct_of (by decide +kernel) (Nat.le_of_ble_eq_true rfl) (fun F hnm hr => ?_)
  have hnm : F.2.2.2.2.2.2.2.2.1.name = "<init>" := hnm
  show V g F cX6_init RX6 1 1 0 [(0, .ref (g.1 + 61))] [] I L R N 62 1 60
  refine v_aload_n dX6_init_0 rfl 0 rfl ?_
  refine v_obj (k := 61) ol_X6_1 oim oco dX6_init_1 (by decide) (Nat.le_of_ble_eq_true rfl) ?_
  refine v_aload_n dX6_init_4 rfl 0 rfl ?_
  refine v_iconst (v := (-1)) dX6_init_5 (by decide) ?_
  refine w_puti pa_X6_7 dX6_init_6 rfl (by decide) (by decide) (by show 0 < 3; decide) ((show ∀ (Ik : Nat → Int32) (Rk : Nat → Option Nat), (fld g.1 Ik Rk 6).set 0 (.int (-1)) = fld g.1 (va_up Ik 0 (-1)) Rk 6 from fun _ _ => rfl) _ _) ?_
  refine v_aload_n dX6_init_9 rfl 0 rfl ?_
  refine v_bipush (v := 60) dX6_init_10 (by decide) ?_
  refine w_newl (len := 60) dX6_init_12 rfl rfl (by decide) 63 0 0 rfl rfl rfl ?_
  refine w_putFr (t := 62) pf_X6_13 ⟨rfl, rfl⟩ hnm dX6_init_14 rfl (by decide) (by decide) (by show 2 < 3; decide) ((show ∀ (Ik : Nat → Int32) (Rk : Nat → Option Nat), (fld g.1 Ik Rk 6).set 2 (.ref (g.1 + 62)) = fld g.1 Ik (va_up Rk 2 (some 62)) 6 from fun _ _ => rfl) _ _) ?_
  exact v_vret hr dX6_init_17 (⟨rfl, rfl, rfl, rfl, rfl, rfl⟩)
def kI63 (I : Ty) : Ty := (wr I 63 0 (-1))
def kL63 (L : TL) : TL := (va_up L 64 Zl)
def kR63 (R : TR) : TR := (rput R 63 2 64)
def kN63 (N : TN) : TN := (va_up N 64 60)
set_option maxRecDepth 100000 in
set_option maxHeartbeats 1000000 in
theorem c_mk63 {g : Gl} {I : Ty} {L : TL} {R : TR} {N : TN} : Ct g yX6_init cX6_init 1 none 1 1 60 [.ref (g.1 + 63)] I L R N 64 (Ps none (kI63 I) (kL63 L) (kR63 R) (kN63 N) 65) := by
  refine ct_of (by decide +kernel) (Nat.le_of_ble_eq_true rfl) (fun F hnm hr => ?_)
  have hnm : F.2.2.2.2.2.2.2.2.1.name = "<init>" := hnm
  show V g F cX6_init RX6 1 1 0 [(0, .ref (g.1 + 63))] [] I L R N 64 1 60
  refine v_aload_n dX6_init_0 rfl 0 rfl ?_
  refine v_obj (k := 63) ol_X6_1 oim oco dX6_init_1 (by decide) (Nat.le_of_ble_eq_true rfl) ?_
  refine v_aload_n dX6_init_4 rfl 0 rfl ?_
  refine v_iconst (v := (-1)) dX6_init_5 (by decide) ?_
  refine w_puti pa_X6_7 dX6_init_6 rfl (by decide) (by decide) (by show 0 < 3; decide) ((show ∀ (Ik : Nat → Int32) (Rk : Nat → Option Nat), (fld g.1 Ik Rk 6).set 0 (.int (-1)) = fld g.1 (va_up Ik 0 (-1)) Rk 6 from fun _ _ => rfl) _ _) ?_
  refine v_aload_n dX6_init_9 rfl 0 rfl ?_
  refine v_bipush (v := 60) dX6_init_10 (by decide) ?_
  refine w_newl (len := 60) dX6_init_12 rfl rfl (by decide) 65 0 0 rfl rfl rfl ?_
  refine w_putFr (t := 64) pf_X6_13 ⟨rfl, rfl⟩ hnm dX6_init_14 rfl (by decide) (by decide) (by show 2 < 3; decide) ((show ∀ (Ik : Nat → Int32) (Rk : Nat → Option Nat), (fld g.1 Ik Rk 6).set 2 (.ref (g.1 + 64)) = fld g.1 Ik (va_up Rk 2 (some 64)) 6 from fun _ _ => rfl) _ _) ?_
  exact v_vret hr dX6_init_17 (⟨rfl, rfl, rfl, rfl, rfl, rfl⟩)
def kI0 (I : Ty) : Ty := (kI63 (va_up (kI61 (va_up (kI59 (va_up (kI57 (va_up (kI55 (va_up (kI53 (va_up (kI43 (va_up (kI33 (va_up (kI23 (va_up (kI21 (va_up (va_up (kI18 (va_up (kI15 (va_up (kI8 (va_up (kI1 (va_up I 1 Zi)) 8 Zi)) 15 Zi)) 18 Zi)) 21 Zi) 22 Zi)) 23 Zi)) 33 Zi)) 43 Zi)) 53 Zi)) 55 Zi)) 57 Zi)) 59 Zi)) 61 Zi)) 63 Zi))
def kL0 (L : TL) : TL := (kL63 (kL61 (kL59 (kL57 (kL55 (kL53 (kL43 (kL33 (kL23 (kL21 (kL18 (kL15 (kL8 (kL1 L))))))))))))))
def kR0 (R : TR) : TR := (rput (kR63 (va_up (rput (kR61 (va_up (rput (kR59 (va_up (rput (kR57 (va_up (rput (kR55 (va_up (rput (kR53 (va_up (rput (kR43 (va_up (rput (kR33 (va_up (rput (kR23 (va_up (kR21 (va_up (rput (va_up (rput (kR18 (va_up (rput (kR15 (va_up (rput (kR8 (va_up (rput (kR1 (va_up R 1 Zr)) 0 2 1) 8 Zr)) 0 4 8) 15 Zr)) 0 6 15) 18 Zr)) 0 8 18) 20 Zr) 0 9 20) 21 Zr)) 23 Zr)) 0 0 23) 33 Zr)) 0 1 33) 43 Zr)) 0 3 43) 53 Zr)) 20 0 53) 55 Zr)) 20 1 55) 57 Zr)) 20 2 57) 59 Zr)) 20 3 59) 61 Zr)) 20 4 61) 63 Zr)) 20 5 63)
def kN0 (N : TN) : TN := (kN63 (kN61 (kN59 (kN57 (kN55 (kN53 (kN43 (kN33 (kN23 (kN21 (va_up (va_up (kN18 (kN15 (kN8 (kN1 N)))) 20 6) 22 0)))))))))))
set_option maxRecDepth 100000 in
set_option maxHeartbeats 1000000 in
theorem c_mk0 {g : Gl} {I : Ty} {L : TL} {R : TR} {N : TN} : Ct g yX8_init cX8_init 3 none 3 64 1059 [.ref (g.1 + 0)] I L R N 1 (Ps none (kI0 I) (kL0 L) (kR0 R) (kN0 N) 65) := by
  refine ct_of (by decide +kernel) (Nat.le_of_ble_eq_true rfl) (fun F hnm hr => ?_)
  have hnm : F.2.2.2.2.2.2.2.2.1.name = "<init>" := hnm
  show V g F cX8_init RX8 3 3 0 [(0, .ref (g.1 + 0))] [] I L R N 1 64 1059
  refine v_aload_n dX8_init_0 rfl 0 rfl ?_
  refine v_obj (k := 0) ol_X8_3 oim oco dX8_init_1 (by decide) (Nat.le_of_ble_eq_true rfl) ?_
  refine v_aload_n dX8_init_4 rfl 0 rfl ?_
  refine w_newo nk_X8_9 dX8_init_5 rfl (by decide) 2 63 1056 rfl rfl rfl ?_
  refine v_dup dX8_init_8 rfl ?_
  refine v_callIv (As := []) (rest := [.ref (g.1 + 1), .ref (g.1 + 0)]) lk_X8_11 (c_mk1 (I := (va_up I 1 Zi)) (L := L) (R := (va_up R 1 Zr)) (N := N)) dX8_init_9 rfl rfl (Nat.le_of_ble_eq_true rfl) (by decide) 57 984 rfl rfl ?_
  refine w_putFr (t := 1) pf_X8_12 ⟨rfl, rfl⟩ hnm dX8_init_12 rfl (by decide) (by decide) (by show 2 < 10; decide) ((show ∀ (Ik : Nat → Int32) (Rk : Nat → Option Nat), (fld g.1 Ik Rk 7).set 2 (.ref (g.1 + 1)) = fld g.1 Ik (va_up Rk 2 (some 1)) 7 from fun _ _ => rfl) _ _) ?_
  refine v_aload_n dX8_init_15 rfl 0 rfl ?_
  refine w_newo nk_X8_9 dX8_init_16 rfl (by decide) 9 56 981 rfl rfl rfl ?_
  refine v_dup dX8_init_19 rfl ?_
  refine v_callIv (As := []) (rest := [.ref (g.1 + 8), .ref (g.1 + 0)]) lk_X8_11 (c_mk8 (I := (va_up (kI1 (va_up I 1 Zi)) 8 Zi)) (L := (kL1 L)) (R := (va_up (rput (kR1 (va_up R 1 Zr)) 0 2 1) 8 Zr)) (N := (kN1 N))) dX8_init_20 rfl rfl (Nat.le_of_ble_eq_true rfl) (by decide) 50 909 rfl rfl ?_
  refine w_putFr (t := 8) pf_X8_18 ⟨rfl, rfl⟩ hnm dX8_init_23 rfl (by decide) (by decide) (by show 4 < 10; decide) ((show ∀ (Ik : Nat → Int32) (Rk : Nat → Option Nat), (fld g.1 Ik Rk 7).set 4 (.ref (g.1 + 8)) = fld g.1 Ik (va_up Rk 4 (some 8)) 7 from fun _ _ => rfl) _ _) ?_
  refine v_aload_n dX8_init_26 rfl 0 rfl ?_
  refine w_newo nk_X8_21 dX8_init_27 rfl (by decide) 16 49 902 rfl rfl rfl ?_
  refine v_dup dX8_init_30 rfl ?_
  refine v_callNv (rest := [.ref (g.1 + 15), .ref (g.1 + 0)]) rfl (c_mk15 (I := (va_up (kI8 (va_up (kI1 (va_up I 1 Zi)) 8 Zi)) 15 Zi)) (L := (kL8 (kL1 L))) (R := (va_up (rput (kR8 (va_up (rput (kR1 (va_up R 1 Zr)) 0 2 1) 8 Zr)) 0 4 8) 15 Zr)) (N := (kN8 (kN1 N)))) dX8_init_31 rfl (Nat.le_of_ble_eq_true rfl) (by decide) 47 702 rfl rfl ?_
  refine w_putFr (t := 15) pf_X8_24 ⟨rfl, rfl⟩ hnm dX8_init_34 rfl (by decide) (by decide) (by show 6 < 10; decide) ((show ∀ (Ik : Nat → Int32) (Rk : Nat → Option Nat), (fld g.1 Ik Rk 7).set 6 (.ref (g.1 + 15)) = fld g.1 Ik (va_up Rk 6 (some 15)) 7 from fun _ _ => rfl) _ _) ?_
  refine v_aload_n dX8_init_37 rfl 0 rfl ?_
  refine w_newo nk_X8_28 dX8_init_38 rfl (by decide) 19 46 697 rfl rfl rfl ?_
  refine v_dup dX8_init_41 rfl ?_
  refine v_callIv (As := []) (rest := [.ref (g.1 + 18), .ref (g.1 + 0)]) lk_X8_30 (c_mk18 (I := (va_up (kI15 (va_up (kI8 (va_up (kI1 (va_up I 1 Zi)) 8 Zi)) 15 Zi)) 18 Zi)) (L := (kL15 (kL8 (kL1 L)))) (R := (va_up (rput (kR15 (va_up (rput (kR8 (va_up (rput (kR1 (va_up R 1 Zr)) 0 2 1) 8 Zr)) 0 4 8) 15 Zr)) 0 6 15) 18 Zr)) (N := (kN15 (kN8 (kN1 N))))) dX8_init_42 rfl rfl (Nat.le_of_ble_eq_true rfl) (by decide) 45 677 rfl rfl ?_
  refine w_putFr (t := 18) pf_X8_31 ⟨rfl, rfl⟩ hnm dX8_init_45 rfl (by decide) (by decide) (by show 8 < 10; decide) ((show ∀ (Ik : Nat → Int32) (Rk : Nat → Option Nat), (fld g.1 Ik Rk 7).set 8 (.ref (g.1 + 18)) = fld g.1 Ik (va_up Rk 8 (some 18)) 7 from fun _ _ => rfl) _ _) ?_
  refine v_aload_n dX8_init_48 rfl 0 rfl ?_
  refine v_bipush (v := 6) dX8_init_49 (by decide) ?_
  refine w_newr (len := 6) cl_X8_35 dX8_init_51 rfl rfl (by decide) 21 44 671 rfl rfl rfl ?_
  refine w_putFr (t := 20) pf_X8_37 ⟨rfl, rfl⟩ hnm dX8_init_54 rfl (by decide) (by decide) (by show 9 < 10; decide) ((show ∀ (Ik : Nat → Int32) (Rk : Nat → Option Nat), (fld g.1 Ik Rk 7).set 9 (.ref (g.1 + 20)) = fld g.1 Ik (va_up Rk 9 (some 20)) 7 from fun _ _ => rfl) _ _) ?_
  refine w_newo nk_X8_41 dX8_init_57 rfl (by decide) 22 43 669 rfl rfl rfl ?_
  refine v_dup dX8_init_60 rfl ?_
  refine v_iconst (v := 0) dX8_init_61 (by decide) ?_
  refine w_newi (len := 0) dX8_init_62 rfl rfl (by decide) 23 42 669 rfl rfl rfl ?_
  refine v_iconst (v := 0) dX8_init_64 (by decide) ?_
  refine v_callIv (As := [.ref (g.1 + 22), .int 0]) (rest := [.ref (g.1 + 21)]) lk_X8_43 (c_mk21 (I := (va_up (va_up (kI18 (va_up (kI15 (va_up (kI8 (va_up (kI1 (va_up I 1 Zi)) 8 Zi)) 15 Zi)) 18 Zi)) 21 Zi) 22 Zi)) (L := (kL18 (kL15 (kL8 (kL1 L))))) (R := (va_up (rput (va_up (rput (kR18 (va_up (rput (kR15 (va_up (rput (kR8 (va_up (rput (kR1 (va_up R 1 Zr)) 0 2 1) 8 Zr)) 0 4 8) 15 Zr)) 0 6 15) 18 Zr)) 0 8 18) 20 Zr) 0 9 20) 21 Zr)) (N := (va_up (va_up (kN18 (kN15 (kN8 (kN1 N)))) 20 6) 22 0))) dX8_init_65 rfl rfl (Nat.le_of_ble_eq_true rfl) (by decide) 42 669 rfl rfl ?_
  refine v_astore_n (lv2 := [(1, .ref (g.1 + 21)), (0, .ref (g.1 + 0))]) dX8_init_68 rfl (by decide) rfl ?_
  refine v_aload_n dX8_init_69 rfl 1 rfl ?_
  refine w_newo nk_X8_46 dX8_init_70 rfl (by decide) 24 41 656 rfl rfl rfl ?_
  refine v_dup dX8_init_73 rfl ?_
  refine v_aload_n dX8_init_74 rfl 0 rfl ?_
  refine v_callIv (As := [.ref (g.1 + 21)]) (rest := [.ref (g.1 + 23), .ref (g.1 + 0)]) lk_X8_48 (c_mk23 (I := (va_up (kI21 (va_up (va_up (kI18 (va_up (kI15 (va_up (kI8 (va_up (kI1 (va_up I 1 Zi)) 8 Zi)) 15 Zi)) 18 Zi)) 21 Zi) 22 Zi)) 23 Zi)) (L := (kL21 (kL18 (kL15 (kL8 (kL1 L)))))) (R := (va_up (kR21 (va_up (rput (va_up (rput (kR18 (va_up (rput (kR15 (va_up (rput (kR8 (va_up (rput (kR1 (va_up R 1 Zr)) 0 2 1) 8 Zr)) 0 4 8) 15 Zr)) 0 6 15) 18 Zr)) 0 8 18) 20 Zr) 0 9 20) 21 Zr)) 23 Zr)) (N := (kN21 (va_up (va_up (kN18 (kN15 (kN8 (kN1 N)))) 20 6) 22 0)))) dX8_init_75 rfl rfl (Nat.le_of_ble_eq_true rfl) (by decide) 32 572 rfl rfl ?_
  refine w_putFr (t := 23) pf_X8_51 ⟨rfl, rfl⟩ hnm dX8_init_78 rfl (by decide) (by decide) (by show 0 < 10; decide) ((show ∀ (Ik : Nat → Int32) (Rk : Nat → Option Nat), (fld g.1 Ik Rk 7).set 0 (.ref (g.1 + 23)) = fld g.1 Ik (va_up Rk 0 (some 23)) 7 from fun _ _ => rfl) _ _) ?_
  refine v_aload_n dX8_init_81 rfl 1 rfl ?_
  refine w_newo nk_X8_46 dX8_init_82 rfl (by decide) 34 31 559 rfl rfl rfl ?_
  refine v_dup dX8_init_85 rfl ?_
  refine v_aload_n dX8_init_86 rfl 0 rfl ?_
  refine v_callIv (As := [.ref (g.1 + 21)]) (rest := [.ref (g.1 + 33), .ref (g.1 + 0)]) lk_X8_48 (c_mk33 (I := (va_up (kI23 (va_up (kI21 (va_up (va_up (kI18 (va_up (kI15 (va_up (kI8 (va_up (kI1 (va_up I 1 Zi)) 8 Zi)) 15 Zi)) 18 Zi)) 21 Zi) 22 Zi)) 23 Zi)) 33 Zi)) (L := (kL23 (kL21 (kL18 (kL15 (kL8 (kL1 L))))))) (R := (va_up (rput (kR23 (va_up (kR21 (va_up (rput (va_up (rput (kR18 (va_up (rput (kR15 (va_up (rput (kR8 (va_up (rput (kR1 (va_up R 1 Zr)) 0 2 1) 8 Zr)) 0 4 8) 15 Zr)) 0 6 15) 18 Zr)) 0 8 18) 20 Zr) 0 9 20) 21 Zr)) 23 Zr)) 0 0 23) 33 Zr)) (N := (kN23 (kN21 (va_up (va_up (kN18 (kN15 (kN8 (kN1 N)))) 20 6) 22 0))))) dX8_init_87 rfl rfl (Nat.le_of_ble_eq_true rfl) (by decide) 22 475 rfl rfl ?_
  refine w_putFr (t := 33) pf_X8_55 ⟨rfl, rfl⟩ hnm dX8_init_90 rfl (by decide) (by decide) (by show 1 < 10; decide) ((show ∀ (Ik : Nat → Int32) (Rk : Nat → Option Nat), (fld g.1 Ik Rk 7).set 1 (.ref (g.1 + 33)) = fld g.1 Ik (va_up Rk 1 (some 33)) 7 from fun _ _ => rfl) _ _) ?_
  refine v_aload_n dX8_init_93 rfl 1 rfl ?_
  refine w_newo nk_X8_46 dX8_init_94 rfl (by decide) 44 21 462 rfl rfl rfl ?_
  refine v_dup dX8_init_97 rfl ?_
  refine v_aload_n dX8_init_98 rfl 0 rfl ?_
  refine v_callIv (As := [.ref (g.1 + 21)]) (rest := [.ref (g.1 + 43), .ref (g.1 + 0)]) lk_X8_48 (c_mk43 (I := (va_up (kI33 (va_up (kI23 (va_up (kI21 (va_up (va_up (kI18 (va_up (kI15 (va_up (kI8 (va_up (kI1 (va_up I 1 Zi)) 8 Zi)) 15 Zi)) 18 Zi)) 21 Zi) 22 Zi)) 23 Zi)) 33 Zi)) 43 Zi)) (L := (kL33 (kL23 (kL21 (kL18 (kL15 (kL8 (kL1 L)))))))) (R := (va_up (rput (kR33 (va_up (rput (kR23 (va_up (kR21 (va_up (rput (va_up (rput (kR18 (va_up (rput (kR15 (va_up (rput (kR8 (va_up (rput (kR1 (va_up R 1 Zr)) 0 2 1) 8 Zr)) 0 4 8) 15 Zr)) 0 6 15) 18 Zr)) 0 8 18) 20 Zr) 0 9 20) 21 Zr)) 23 Zr)) 0 0 23) 33 Zr)) 0 1 33) 43 Zr)) (N := (kN33 (kN23 (kN21 (va_up (va_up (kN18 (kN15 (kN8 (kN1 N)))) 20 6) 22 0)))))) dX8_init_99 rfl rfl (Nat.le_of_ble_eq_true rfl) (by decide) 12 378 rfl rfl ?_
  refine w_putFr (t := 43) pf_X8_58 ⟨rfl, rfl⟩ hnm dX8_init_102 rfl (by decide) (by decide) (by show 3 < 10; decide) ((show ∀ (Ik : Nat → Int32) (Rk : Nat → Option Nat), (fld g.1 Ik Rk 7).set 3 (.ref (g.1 + 43)) = fld g.1 Ik (va_up Rk 3 (some 43)) 7 from fun _ _ => rfl) _ _) ?_
  refine v_iconst (v := 0) dX8_init_105 (by decide) ?_
  refine v_istore_n (lv2 := [(2, .int 0), (1, .ref (g.1 + 21)), (0, .ref (g.1 + 0))]) dX8_init_106 rfl (by decide) rfl ?_
  refine v_iload_n dX8_init_107 rfl 0 rfl ?_
  refine v_bipush (v := 6) dX8_init_108 (by decide) ?_
  refine v_icmp_ge (tgt := 132) dX8_init_110 (by decide) (fun h1 => by first | exact absurd h1 (by decide) | exact absurd (by decide) h1) (fun _ => ?_)
  refine v_aload_n dX8_init_113 rfl 2 rfl ?_
  refine v_get (v := .ref (g.1 + 20)) fa_X8_37 dX8_init_114 rfl (by decide) (by decide) rfl ?_
  refine v_iload_n dX8_init_117 rfl 0 rfl ?_
  refine w_newo nk_X8_35 dX8_init_118 rfl (by decide) 54 11 375 rfl rfl rfl ?_
  refine v_dup dX8_init_121 rfl ?_
  refine v_callIv (As := []) (rest := [.ref (g.1 + 53), .int 0, .ref (g.1 + 20)]) lk_X8_61 (c_mk53 (I := (va_up (kI43 (va_up (kI33 (va_up (kI23 (va_up (kI21 (va_up (va_up (kI18 (va_up (kI15 (va_up (kI8 (va_up (kI1 (va_up I 1 Zi)) 8 Zi)) 15 Zi)) 18 Zi)) 21 Zi) 22 Zi)) 23 Zi)) 33 Zi)) 43 Zi)) 53 Zi)) (L := (kL43 (kL33 (kL23 (kL21 (kL18 (kL15 (kL8 (kL1 L))))))))) (R := (va_up (rput (kR43 (va_up (rput (kR33 (va_up (rput (kR23 (va_up (kR21 (va_up (rput (va_up (rput (kR18 (va_up (rput (kR15 (va_up (rput (kR8 (va_up (rput (kR1 (va_up R 1 Zr)) 0 2 1) 8 Zr)) 0 4 8) 15 Zr)) 0 6 15) 18 Zr)) 0 8 18) 20 Zr) 0 9 20) 21 Zr)) 23 Zr)) 0 0 23) 33 Zr)) 0 1 33) 43 Zr)) 0 3 43) 53 Zr)) (N := (kN43 (kN33 (kN23 (kN21 (va_up (va_up (kN18 (kN15 (kN8 (kN1 N)))) 20 6) 22 0))))))) dX8_init_122 rfl rfl (Nat.le_of_ble_eq_true rfl) (by decide) 10 315 rfl rfl ?_
  refine w_aastore (len := 6) (j := 0) dX8_init_125 rfl (by decide) rfl (by decide) rfl (by decide) rfl (by decide) ?_
  refine v_inc (v := 1) (lv2 := [(2, .int 1), (1, .ref (g.1 + 21)), (0, .ref (g.1 + 0))]) dX8_init_126 0 rfl (by decide) (by decide) rfl ?_
  refine v_goto (tgt := 107) dX8_init_129 (by decide) ?_
  refine v_iload_n dX8_init_107 rfl 0 rfl ?_
  refine v_bipush (v := 6) dX8_init_108 (by decide) ?_
  refine v_icmp_ge (tgt := 132) dX8_init_110 (by decide) (fun h2 => by first | exact absurd h2 (by decide) | exact absurd (by decide) h2) (fun _ => ?_)
  refine v_aload_n dX8_init_113 rfl 2 rfl ?_
  refine v_get (v := .ref (g.1 + 20)) fa_X8_37 dX8_init_114 rfl (by decide) (by decide) rfl ?_
  refine v_iload_n dX8_init_117 rfl 0 rfl ?_
  refine w_newo nk_X8_35 dX8_init_118 rfl (by decide) 56 9 312 rfl rfl rfl ?_
  refine v_dup dX8_init_121 rfl ?_
  refine v_callIv (As := []) (rest := [.ref (g.1 + 55), .int 1, .ref (g.1 + 20)]) lk_X8_61 (c_mk55 (I := (va_up (kI53 (va_up (kI43 (va_up (kI33 (va_up (kI23 (va_up (kI21 (va_up (va_up (kI18 (va_up (kI15 (va_up (kI8 (va_up (kI1 (va_up I 1 Zi)) 8 Zi)) 15 Zi)) 18 Zi)) 21 Zi) 22 Zi)) 23 Zi)) 33 Zi)) 43 Zi)) 53 Zi)) 55 Zi)) (L := (kL53 (kL43 (kL33 (kL23 (kL21 (kL18 (kL15 (kL8 (kL1 L)))))))))) (R := (va_up (rput (kR53 (va_up (rput (kR43 (va_up (rput (kR33 (va_up (rput (kR23 (va_up (kR21 (va_up (rput (va_up (rput (kR18 (va_up (rput (kR15 (va_up (rput (kR8 (va_up (rput (kR1 (va_up R 1 Zr)) 0 2 1) 8 Zr)) 0 4 8) 15 Zr)) 0 6 15) 18 Zr)) 0 8 18) 20 Zr) 0 9 20) 21 Zr)) 23 Zr)) 0 0 23) 33 Zr)) 0 1 33) 43 Zr)) 0 3 43) 53 Zr)) 20 0 53) 55 Zr)) (N := (kN53 (kN43 (kN33 (kN23 (kN21 (va_up (va_up (kN18 (kN15 (kN8 (kN1 N)))) 20 6) 22 0)))))))) dX8_init_122 rfl rfl (Nat.le_of_ble_eq_true rfl) (by decide) 8 252 rfl rfl ?_
  refine w_aastore (len := 6) (j := 1) dX8_init_125 rfl (by decide) rfl (by decide) rfl (by decide) rfl (by decide) ?_
  refine v_inc (v := 2) (lv2 := [(2, .int 2), (1, .ref (g.1 + 21)), (0, .ref (g.1 + 0))]) dX8_init_126 0 rfl (by decide) (by decide) rfl ?_
  refine v_goto (tgt := 107) dX8_init_129 (by decide) ?_
  refine v_iload_n dX8_init_107 rfl 0 rfl ?_
  refine v_bipush (v := 6) dX8_init_108 (by decide) ?_
  refine v_icmp_ge (tgt := 132) dX8_init_110 (by decide) (fun h3 => by first | exact absurd h3 (by decide) | exact absurd (by decide) h3) (fun _ => ?_)
  refine v_aload_n dX8_init_113 rfl 2 rfl ?_
  refine v_get (v := .ref (g.1 + 20)) fa_X8_37 dX8_init_114 rfl (by decide) (by decide) rfl ?_
  refine v_iload_n dX8_init_117 rfl 0 rfl ?_
  refine w_newo nk_X8_35 dX8_init_118 rfl (by decide) 58 7 249 rfl rfl rfl ?_
  refine v_dup dX8_init_121 rfl ?_
  refine v_callIv (As := []) (rest := [.ref (g.1 + 57), .int 2, .ref (g.1 + 20)]) lk_X8_61 (c_mk57 (I := (va_up (kI55 (va_up (kI53 (va_up (kI43 (va_up (kI33 (va_up (kI23 (va_up (kI21 (va_up (va_up (kI18 (va_up (kI15 (va_up (kI8 (va_up (kI1 (va_up I 1 Zi)) 8 Zi)) 15 Zi)) 18 Zi)) 21 Zi) 22 Zi)) 23 Zi)) 33 Zi)) 43 Zi)) 53 Zi)) 55 Zi)) 57 Zi)) (L := (kL55 (kL53 (kL43 (kL33 (kL23 (kL21 (kL18 (kL15 (kL8 (kL1 L))))))))))) (R := (va_up (rput (kR55 (va_up (rput (kR53 (va_up (rput (kR43 (va_up (rput (kR33 (va_up (rput (kR23 (va_up (kR21 (va_up (rput (va_up (rput (kR18 (va_up (rput (kR15 (va_up (rput (kR8 (va_up (rput (kR1 (va_up R 1 Zr)) 0 2 1) 8 Zr)) 0 4 8) 15 Zr)) 0 6 15) 18 Zr)) 0 8 18) 20 Zr) 0 9 20) 21 Zr)) 23 Zr)) 0 0 23) 33 Zr)) 0 1 33) 43 Zr)) 0 3 43) 53 Zr)) 20 0 53) 55 Zr)) 20 1 55) 57 Zr)) (N := (kN55 (kN53 (kN43 (kN33 (kN23 (kN21 (va_up (va_up (kN18 (kN15 (kN8 (kN1 N)))) 20 6) 22 0))))))))) dX8_init_122 rfl rfl (Nat.le_of_ble_eq_true rfl) (by decide) 6 189 rfl rfl ?_
  refine w_aastore (len := 6) (j := 2) dX8_init_125 rfl (by decide) rfl (by decide) rfl (by decide) rfl (by decide) ?_
  refine v_inc (v := 3) (lv2 := [(2, .int 3), (1, .ref (g.1 + 21)), (0, .ref (g.1 + 0))]) dX8_init_126 0 rfl (by decide) (by decide) rfl ?_
  refine v_goto (tgt := 107) dX8_init_129 (by decide) ?_
  refine v_iload_n dX8_init_107 rfl 0 rfl ?_
  refine v_bipush (v := 6) dX8_init_108 (by decide) ?_
  refine v_icmp_ge (tgt := 132) dX8_init_110 (by decide) (fun h4 => by first | exact absurd h4 (by decide) | exact absurd (by decide) h4) (fun _ => ?_)
  refine v_aload_n dX8_init_113 rfl 2 rfl ?_
  refine v_get (v := .ref (g.1 + 20)) fa_X8_37 dX8_init_114 rfl (by decide) (by decide) rfl ?_
  refine v_iload_n dX8_init_117 rfl 0 rfl ?_
  refine w_newo nk_X8_35 dX8_init_118 rfl (by decide) 60 5 186 rfl rfl rfl ?_
  refine v_dup dX8_init_121 rfl ?_
  refine v_callIv (As := []) (rest := [.ref (g.1 + 59), .int 3, .ref (g.1 + 20)]) lk_X8_61 (c_mk59 (I := (va_up (kI57 (va_up (kI55 (va_up (kI53 (va_up (kI43 (va_up (kI33 (va_up (kI23 (va_up (kI21 (va_up (va_up (kI18 (va_up (kI15 (va_up (kI8 (va_up (kI1 (va_up I 1 Zi)) 8 Zi)) 15 Zi)) 18 Zi)) 21 Zi) 22 Zi)) 23 Zi)) 33 Zi)) 43 Zi)) 53 Zi)) 55 Zi)) 57 Zi)) 59 Zi)) (L := (kL57 (kL55 (kL53 (kL43 (kL33 (kL23 (kL21 (kL18 (kL15 (kL8 (kL1 L)))))))))))) (R := (va_up (rput (kR57 (va_up (rput (kR55 (va_up (rput (kR53 (va_up (rput (kR43 (va_up (rput (kR33 (va_up (rput (kR23 (va_up (kR21 (va_up (rput (va_up (rput (kR18 (va_up (rput (kR15 (va_up (rput (kR8 (va_up (rput (kR1 (va_up R 1 Zr)) 0 2 1) 8 Zr)) 0 4 8) 15 Zr)) 0 6 15) 18 Zr)) 0 8 18) 20 Zr) 0 9 20) 21 Zr)) 23 Zr)) 0 0 23) 33 Zr)) 0 1 33) 43 Zr)) 0 3 43) 53 Zr)) 20 0 53) 55 Zr)) 20 1 55) 57 Zr)) 20 2 57) 59 Zr)) (N := (kN57 (kN55 (kN53 (kN43 (kN33 (kN23 (kN21 (va_up (va_up (kN18 (kN15 (kN8 (kN1 N)))) 20 6) 22 0)))))))))) dX8_init_122 rfl rfl (Nat.le_of_ble_eq_true rfl) (by decide) 4 126 rfl rfl ?_
  refine w_aastore (len := 6) (j := 3) dX8_init_125 rfl (by decide) rfl (by decide) rfl (by decide) rfl (by decide) ?_
  refine v_inc (v := 4) (lv2 := [(2, .int 4), (1, .ref (g.1 + 21)), (0, .ref (g.1 + 0))]) dX8_init_126 0 rfl (by decide) (by decide) rfl ?_
  refine v_goto (tgt := 107) dX8_init_129 (by decide) ?_
  refine v_iload_n dX8_init_107 rfl 0 rfl ?_
  refine v_bipush (v := 6) dX8_init_108 (by decide) ?_
  refine v_icmp_ge (tgt := 132) dX8_init_110 (by decide) (fun h5 => by first | exact absurd h5 (by decide) | exact absurd (by decide) h5) (fun _ => ?_)
  refine v_aload_n dX8_init_113 rfl 2 rfl ?_
  refine v_get (v := .ref (g.1 + 20)) fa_X8_37 dX8_init_114 rfl (by decide) (by decide) rfl ?_
  refine v_iload_n dX8_init_117 rfl 0 rfl ?_
  refine w_newo nk_X8_35 dX8_init_118 rfl (by decide) 62 3 123 rfl rfl rfl ?_
  refine v_dup dX8_init_121 rfl ?_
  refine v_callIv (As := []) (rest := [.ref (g.1 + 61), .int 4, .ref (g.1 + 20)]) lk_X8_61 (c_mk61 (I := (va_up (kI59 (va_up (kI57 (va_up (kI55 (va_up (kI53 (va_up (kI43 (va_up (kI33 (va_up (kI23 (va_up (kI21 (va_up (va_up (kI18 (va_up (kI15 (va_up (kI8 (va_up (kI1 (va_up I 1 Zi)) 8 Zi)) 15 Zi)) 18 Zi)) 21 Zi) 22 Zi)) 23 Zi)) 33 Zi)) 43 Zi)) 53 Zi)) 55 Zi)) 57 Zi)) 59 Zi)) 61 Zi)) (L := (kL59 (kL57 (kL55 (kL53 (kL43 (kL33 (kL23 (kL21 (kL18 (kL15 (kL8 (kL1 L))))))))))))) (R := (va_up (rput (kR59 (va_up (rput (kR57 (va_up (rput (kR55 (va_up (rput (kR53 (va_up (rput (kR43 (va_up (rput (kR33 (va_up (rput (kR23 (va_up (kR21 (va_up (rput (va_up (rput (kR18 (va_up (rput (kR15 (va_up (rput (kR8 (va_up (rput (kR1 (va_up R 1 Zr)) 0 2 1) 8 Zr)) 0 4 8) 15 Zr)) 0 6 15) 18 Zr)) 0 8 18) 20 Zr) 0 9 20) 21 Zr)) 23 Zr)) 0 0 23) 33 Zr)) 0 1 33) 43 Zr)) 0 3 43) 53 Zr)) 20 0 53) 55 Zr)) 20 1 55) 57 Zr)) 20 2 57) 59 Zr)) 20 3 59) 61 Zr)) (N := (kN59 (kN57 (kN55 (kN53 (kN43 (kN33 (kN23 (kN21 (va_up (va_up (kN18 (kN15 (kN8 (kN1 N)))) 20 6) 22 0))))))))))) dX8_init_122 rfl rfl (Nat.le_of_ble_eq_true rfl) (by decide) 2 63 rfl rfl ?_
  refine w_aastore (len := 6) (j := 4) dX8_init_125 rfl (by decide) rfl (by decide) rfl (by decide) rfl (by decide) ?_
  refine v_inc (v := 5) (lv2 := [(2, .int 5), (1, .ref (g.1 + 21)), (0, .ref (g.1 + 0))]) dX8_init_126 0 rfl (by decide) (by decide) rfl ?_
  refine v_goto (tgt := 107) dX8_init_129 (by decide) ?_
  refine v_iload_n dX8_init_107 rfl 0 rfl ?_
  refine v_bipush (v := 6) dX8_init_108 (by decide) ?_
  refine v_icmp_ge (tgt := 132) dX8_init_110 (by decide) (fun h6 => by first | exact absurd h6 (by decide) | exact absurd (by decide) h6) (fun _ => ?_)
  refine v_aload_n dX8_init_113 rfl 2 rfl ?_
  refine v_get (v := .ref (g.1 + 20)) fa_X8_37 dX8_init_114 rfl (by decide) (by decide) rfl ?_
  refine v_iload_n dX8_init_117 rfl 0 rfl ?_
  refine w_newo nk_X8_35 dX8_init_118 rfl (by decide) 64 1 60 rfl rfl rfl ?_
  refine v_dup dX8_init_121 rfl ?_
  refine v_callIv (As := []) (rest := [.ref (g.1 + 63), .int 5, .ref (g.1 + 20)]) lk_X8_61 (c_mk63 (I := (va_up (kI61 (va_up (kI59 (va_up (kI57 (va_up (kI55 (va_up (kI53 (va_up (kI43 (va_up (kI33 (va_up (kI23 (va_up (kI21 (va_up (va_up (kI18 (va_up (kI15 (va_up (kI8 (va_up (kI1 (va_up I 1 Zi)) 8 Zi)) 15 Zi)) 18 Zi)) 21 Zi) 22 Zi)) 23 Zi)) 33 Zi)) 43 Zi)) 53 Zi)) 55 Zi)) 57 Zi)) 59 Zi)) 61 Zi)) 63 Zi)) (L := (kL61 (kL59 (kL57 (kL55 (kL53 (kL43 (kL33 (kL23 (kL21 (kL18 (kL15 (kL8 (kL1 L)))))))))))))) (R := (va_up (rput (kR61 (va_up (rput (kR59 (va_up (rput (kR57 (va_up (rput (kR55 (va_up (rput (kR53 (va_up (rput (kR43 (va_up (rput (kR33 (va_up (rput (kR23 (va_up (kR21 (va_up (rput (va_up (rput (kR18 (va_up (rput (kR15 (va_up (rput (kR8 (va_up (rput (kR1 (va_up R 1 Zr)) 0 2 1) 8 Zr)) 0 4 8) 15 Zr)) 0 6 15) 18 Zr)) 0 8 18) 20 Zr) 0 9 20) 21 Zr)) 23 Zr)) 0 0 23) 33 Zr)) 0 1 33) 43 Zr)) 0 3 43) 53 Zr)) 20 0 53) 55 Zr)) 20 1 55) 57 Zr)) 20 2 57) 59 Zr)) 20 3 59) 61 Zr)) 20 4 61) 63 Zr)) (N := (kN61 (kN59 (kN57 (kN55 (kN53 (kN43 (kN33 (kN23 (kN21 (va_up (va_up (kN18 (kN15 (kN8 (kN1 N)))) 20 6) 22 0)))))))))))) dX8_init_122 rfl rfl (Nat.le_of_ble_eq_true rfl) (by decide) 0 0 rfl rfl ?_
  refine w_aastore (len := 6) (j := 5) dX8_init_125 rfl (by decide) rfl (by decide) rfl (by decide) rfl (by decide) ?_
  refine v_inc (v := 6) (lv2 := [(2, .int 6), (1, .ref (g.1 + 21)), (0, .ref (g.1 + 0))]) dX8_init_126 0 rfl (by decide) (by decide) rfl ?_
  refine v_goto (tgt := 107) dX8_init_129 (by decide) ?_
  refine v_iload_n dX8_init_107 rfl 0 rfl ?_
  refine v_bipush (v := 6) dX8_init_108 (by decide) ?_
  refine v_icmp_ge (tgt := 132) dX8_init_110 (by decide) (fun _ => ?_) (fun h7 => by first | exact absurd h7 (by decide) | exact absurd (by decide) h7)
  exact v_vret hr dX8_init_132 (⟨rfl, rfl, rfl, rfl, rfl, rfl⟩)
