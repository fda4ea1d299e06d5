theorem wr_row (I : Ty) (a : Nat) (r : Nat → Int32) (k : Nat) (v : Int32) : wr (va_up I a r) a k v = va_up I a (va_up r k v) := by
  show va_up (va_up I a r) a (va_up (va_up I a r a) k v) = _
  rw [up_up2, up_at]
theorem cpn_me {α : Type} (f h : Nat → α) (i : Nat) : cpn f h i i = h i := if_neg (Nat.lt_irrefl i)
/-- a nation's cell of steps, and how many -/
def scell (x : Nat) : Nat := if x = 0 then 22 else NB + 2 * (x - 1)
def sln (nl : Nat → Nat) (x : Nat) : Nat := if x = 0 then 0 else nl (x - 1)
theorem RT_hi (na nt ni k : Nat) (h : 116 ≤ k) : RT na nt ni k = fun j => match j with | 1 => some (k - 1) | _ => none := by
  unfold RT
  split <;> first | omega | (funext j; rw [if_neg (by omega)]; rcases j with _ | _ | j <;> rfl)
theorem RT_nc (na nt ni x : Nat) : RT na nt ni (ncell x) 1 = some (scell x) := by
  unfold ncell scell
  by_cases h : x = 0
  · rw [if_pos h, if_pos h]; rfl
  · rw [if_neg h, if_neg h, RT_hi _ _ _ _ (by omega)]; rfl
theorem kd_hi {k : Nat} (h : 116 ≤ k) : kd k = if (k - 116) % 2 = 0 then 9 else 3 := by unfold kd; rw [if_neg (by omega)]
theorem kd_nc (x : Nat) : kd (ncell x) = 3 := by
  unfold ncell
  by_cases h : x = 0
  · rw [if_pos h]; rfl
  · rw [if_neg h, kd_hi (by omega), if_neg (by omega)]
theorem kd_sc (x : Nat) : kd (scell x) = 9 := by
  unfold scell
  by_cases h : x = 0
  · rw [if_pos h]; rfl
  · rw [if_neg h, kd_hi (by unfold NB; omega), if_pos (by unfold NB; omega)]
theorem lt_nc {x m : Nat} (h : 2 * x ≤ m) : ncell x < NB + m := by
  unfold ncell NB
  by_cases h : x = 0
  · rw [if_pos h]; omega
  · rw [if_neg h]; omega
theorem lt_sc {x m : Nat} (h : 2 * x ≤ m) : scell x < NB + m := by
  unfold scell NB
  by_cases h : x = 0
  · rw [if_pos h]; omega
  · rw [if_neg h]; omega
theorem NT_sc (nl : Nat → Nat) (x : Nat) : NT nl (scell x) = sln nl x := by
  unfold scell sln NT
  by_cases h : x = 0
  · rw [if_pos h, if_pos h]; rfl
  · rw [if_neg h, if_neg h, if_neg (by unfold NB; omega)]
    congr 1
    unfold NB; omega
theorem scell_off (x : Nat) : scell x = 22 ∨ 116 ≤ scell x := by
  unfold scell NB
  by_cases h : x = 0
  · rw [if_pos h]; exact Or.inl rfl
  · rw [if_neg h]; exact Or.inr (by omega)
theorem scell_ne (x : Nat) {k : Nat} (h1 : k ≠ 22) (h2 : k < 116) : scell x ≠ k := by
  rcases scell_off x with e | e <;> omega
theorem ncell_off (x : Nat) : ncell x = 21 ∨ 116 ≤ ncell x := by
  unfold ncell
  by_cases h : x = 0
  · rw [if_pos h]; exact Or.inl rfl
  · rw [if_neg h]; exact Or.inr (by omega)
theorem ncell_ne (x : Nat) {k : Nat} (h1 : k ≠ 21) (h2 : k < 116) : ncell x ≠ k := by
  rcases ncell_off x with e | e <;> omega
def lo7 (x : Int32) : Nat := x.toBitVec.toNat % 8
theorem lo7_lt (x : Int32) : lo7 x < 8 := Nat.mod_lt _ (by decide)
theorem lo7_e (x : Int32) : x &&& 7 = nI (lo7 x) := pk_and x (m := 7) 3 rfl
def opO (s : Int32) : Int32 := s >>> (4 &&& 31)
/-- one step on the stack of truths -/
noncomputable def stpO (s : Int32) (fx : Nat → Int32) (z : Int32 × Int32) : Int32 × Int32 :=
  ifc (s &&& 15 = 0) (z.1, z.2 ^^^ 1) (ifc (s &&& 15 = 1) (z.1, ush z.2 1 &&& (z.2 ||| (-2))) (ifc (s &&& 15 = 2) (z.1, ush z.2 1 ||| (z.2 &&& 1)) (ifc (s &&& 15 = 3) (z.1 + (z.2 &&& 1) * opO s, 0)
    (ifc (s &&& 15 = 4) (z.1, (z.2 <<< (1 &&& 31)) ||| ifc (fx (lo7 (opO s)) < opO s >>> (3 &&& 31)) 1 0) (ifc (s &&& 15 = 5) (z.1, (z.2 <<< (1 &&& 31)) ||| ifc (fx (lo7 (opO s)) = opO s >>> (3 &&& 31)) 1 0) (z.1, (z.2 <<< (1 &&& 31)) ||| ifc (opO s >>> (3 &&& 31) < fx (lo7 (opO s))) 1 0))))))
noncomputable def olsS (st : Nat → Int32) (fx : Nat → Int32) : Nat → Int32 × Int32
  | 0 => (0, 0)
  | i + 1 => stpO (st i) fx (olsS st fx i)
set_option maxRecDepth 100000 in
set_option maxHeartbeats 1000000 in
theorem c_ols_23 {g : Gl} {I : Ty} {L : TL} {na nt ni m : Nat} {nl : Nat → Nat}  (xz : Nat) (hxz : 2 * xz ≤ m) (hsl : sln nl xz ≤ 100) : Ct g yX3_openLessShut cX3_openLessShut 8 (some .int) 0 0 0 [.ref (g.1 + (ncell xz)), .ref (g.1 + 32)] I L (RT na nt ni) (NT nl) (NB + m) (Ps (some (.int ((olsS (I (scell xz)) (I 32) (sln nl xz)).1))) (I) L (RT na nt ni) (NT nl) (NB + m)) := by
  refine ct_of (by decide +kernel) (Nat.le_of_ble_eq_true rfl) (fun F hnm hr => ?_)
  clear hnm
  show V g F cX3_openLessShut RX3 8 0 0 [(0, .ref (g.1 + (ncell xz))), (1, .ref (g.1 + 32))] [] I L (RT na nt ni) (NT nl) (NB + m) 0 0
  refine v_iconst (v := 0) dX3_openLessShut_0 (by decide) ?_
  refine v_istore_n (lv2 := [(2, .int 0), (0, .ref (g.1 + (ncell xz))), (1, .ref (g.1 + 32))]) dX3_openLessShut_1 rfl (by decide) rfl ?_
  refine v_iconst (v := 0) dX3_openLessShut_2 (by decide) ?_
  refine v_istore_n (lv2 := [(3, .int 0), (2, .int 0), (0, .ref (g.1 + (ncell xz))), (1, .ref (g.1 + 32))]) dX3_openLessShut_3 rfl (by decide) rfl ?_
  refine v_iconst (v := 0) dX3_openLessShut_4 (by decide) ?_
  refine v_istore (lv2 := [(4, .int 0), (3, .int 0), (2, .int 0), (0, .ref (g.1 + (ncell xz))), (1, .ref (g.1 + 32))]) dX3_openLessShut_5 (by decide) rfl ?_
  refine v_lv (lv2 := [(4, .int (nI 0)), (3, .int ((olsS (I (scell xz)) (I 32) 0).2)), (2, .int ((olsS (I (scell xz)) (I 32) 0).1)), (0, .ref (g.1 + (ncell xz))), (1, .ref (g.1 + 32))]) (by rfl) ?_
  refine dloop (P := fun i => V g F cX3_openLessShut RX3 8 0 7 [(4, .int (nI i)), (3, .int ((olsS (I (scell xz)) (I 32) i).2)), (2, .int ((olsS (I (scell xz)) (I 32) i).1)), (0, .ref (g.1 + (ncell xz))), (1, .ref (g.1 + 32))] [] I L (RT na nt ni) (NT nl) (NB + m) 0 0) (sln nl xz) ?_ ?_ 0 (Nat.zero_le _)
  · refine v_iload dX3_openLessShut_7 0 rfl ?_
    refine v_aload_n dX3_openLessShut_9 rfl 3 rfl ?_
    refine v_get (v := .ref (g.1 + (scell xz))) fa_X3_7 dX3_openLessShut_10 (kd_nc xz) (by decide) (lt_nc hxz) (by show some (va_rf ((RT na nt ni (ncell xz) 1).map _)) = _; rw [RT_nc]; rfl) ?_
    refine v_alen (len := (sln nl xz)) dX3_openLessShut_13 (kd_sc xz) (lt_sc hxz) (NT_sc nl xz) ?_
    refine v_icmp_geN (a := (sln nl xz)) (b := (sln nl xz)) (tgt := 199) dX3_openLessShut_14 (by decide) rfl rfl (by omega) (by omega) (fun h1 => ?_) (fun h => by exfalso; omega)
    refine v_iload_n dX3_openLessShut_199 rfl 2 rfl ?_
    exact v_iret hr dX3_openLessShut_200 (psi rfl rfl)
  · intro i hi ih
    refine v_iload dX3_openLessShut_7 0 rfl ?_
    refine v_aload_n dX3_openLessShut_9 rfl 3 rfl ?_
    refine v_get (v := .ref (g.1 + (scell xz))) fa_X3_7 dX3_openLessShut_10 (kd_nc xz) (by decide) (lt_nc hxz) (by show some (va_rf ((RT na nt ni (ncell xz) 1).map _)) = _; rw [RT_nc]; rfl) ?_
    refine v_alen (len := (sln nl xz)) dX3_openLessShut_13 (kd_sc xz) (lt_sc hxz) (NT_sc nl xz) ?_
    refine v_icmp_geN (a := i) (b := (sln nl xz)) (tgt := 199) dX3_openLessShut_14 (by decide) rfl rfl (by omega) (by omega) (fun h => by exfalso; omega) (fun h2 => ?_)
    refine v_aload_n dX3_openLessShut_17 rfl 3 rfl ?_
    refine v_get (v := .ref (g.1 + (scell xz))) fa_X3_7 dX3_openLessShut_18 (kd_nc xz) (by decide) (lt_nc hxz) (by show some (va_rf ((RT na nt ni (ncell xz) 1).map _)) = _; rw [RT_nc]; rfl) ?_
    refine v_iload dX3_openLessShut_21 0 rfl ?_
    refine v_iaload (len := (sln nl xz)) (j := i) dX3_openLessShut_23 (kd_sc xz) (lt_sc hxz) (NT_sc nl xz) (by omega) rfl (by omega) ?_
    refine v_iconst (v := 4) dX3_openLessShut_24 (by decide) ?_
    refine v_ishr dX3_openLessShut_25 ?_
    refine v_istore (lv2 := [(5, .int (I (scell xz) i >>> (4 &&& 31))), (4, .int (nI i)), (3, .int ((olsS (I (scell xz)) (I 32) i).2)), (2, .int ((olsS (I (scell xz)) (I 32) i).1)), (0, .ref (g.1 + (ncell xz))), (1, .ref (g.1 + 32))]) dX3_openLessShut_26 (by decide) rfl ?_
    refine v_aload_n dX3_openLessShut_28 rfl 5 rfl ?_
    refine v_iload dX3_openLessShut_29 0 rfl ?_
    refine v_bipush (v := 7) dX3_openLessShut_31 (by decide) ?_
    refine v_iand dX3_openLessShut_33 ?_
    refine v_is (lo7_e (I (scell xz) i >>> (4 &&& 31))) ?_
    have h8 := lo7_lt (I (scell xz) i >>> (4 &&& 31))
    refine v_iaload (len := 8) (j := (lo7 (I (scell xz) i >>> (4 &&& 31)))) dX3_openLessShut_34 rfl (ltn rfl) rfl (by decide) rfl (by omega) ?_
    refine v_istore (lv2 := [(6, .int (I 32 (lo7 (I (scell xz) i >>> (4 &&& 31))))), (5, .int (I (scell xz) i >>> (4 &&& 31))), (4, .int (nI i)), (3, .int ((olsS (I (scell xz)) (I 32) i).2)), (2, .int ((olsS (I (scell xz)) (I 32) i).1)), (0, .ref (g.1 + (ncell xz))), (1, .ref (g.1 + 32))]) dX3_openLessShut_35 (by decide) rfl ?_
    refine v_iload dX3_openLessShut_37 1 rfl ?_
    refine v_iconst (v := 3) dX3_openLessShut_39 (by decide) ?_
    refine v_ishr dX3_openLessShut_40 ?_
    refine v_istore (lv2 := [(7, .int ((I (scell xz) i >>> (4 &&& 31)) >>> (3 &&& 31))), (6, .int (I 32 (lo7 (I (scell xz) i >>> (4 &&& 31))))), (5, .int (I (scell xz) i >>> (4 &&& 31))), (4, .int (nI i)), (3, .int ((olsS (I (scell xz)) (I 32) i).2)), (2, .int ((olsS (I (scell xz)) (I 32) i).1)), (0, .ref (g.1 + (ncell xz))), (1, .ref (g.1 + 32))]) dX3_openLessShut_41 (by decide) rfl ?_
    refine v_aload_n dX3_openLessShut_43 rfl 6 rfl ?_
    refine v_get (v := .ref (g.1 + (scell xz))) fa_X3_7 dX3_openLessShut_44 (kd_nc xz) (by decide) (lt_nc hxz) (by show some (va_rf ((RT na nt ni (ncell xz) 1).map _)) = _; rw [RT_nc]; rfl) ?_
    refine v_iload dX3_openLessShut_47 3 rfl ?_
    refine v_iaload (len := (sln nl xz)) (j := i) dX3_openLessShut_49 (kd_sc xz) (lt_sc hxz) (NT_sc nl xz) (by omega) rfl (by omega) ?_
    refine v_bipush (v := 15) dX3_openLessShut_50 (by decide) ?_
    refine v_iand dX3_openLessShut_52 ?_
    by_cases k3_0 : (I (scell xz) i &&& (15 : Int32)) = 0
    · refine v_is k3_0 ?_
      refine v_tabIn (off := 39) (tgt := 92) dX3_openLessShut_53 (by decide) (by decide) (by decide) (by decide) ?_
      refine v_iload_n dX3_openLessShut_92 rfl 4 rfl ?_
      refine v_iconst (v := 1) dX3_openLessShut_93 (by decide) ?_
      refine v_ixor dX3_openLessShut_94 ?_
      refine v_istore_n (lv2 := [(3, .int ((olsS (I (scell xz)) (I 32) i).2 ^^^ (1 : Int32))), (7, .int ((I (scell xz) i >>> (4 &&& 31)) >>> (3 &&& 31))), (6, .int (I 32 (lo7 (I (scell xz) i >>> (4 &&& 31))))), (5, .int (I (scell xz) i >>> (4 &&& 31))), (4, .int (nI i)), (2, .int ((olsS (I (scell xz)) (I 32) i).1)), (0, .ref (g.1 + (ncell xz))), (1, .ref (g.1 + 32))]) dX3_openLessShut_95 rfl (by decide) rfl ?_
      refine v_goto (tgt := 193) dX3_openLessShut_96 (by decide) ?_
      refine v_inc (v := nI (i + 1)) (lv2 := [(4, .int (nI (i + 1))), (3, .int ((olsS (I (scell xz)) (I 32) i).2 ^^^ (1 : Int32))), (7, .int ((I (scell xz) i >>> (4 &&& 31)) >>> (3 &&& 31))), (6, .int (I 32 (lo7 (I (scell xz) i >>> (4 &&& 31))))), (5, .int (I (scell xz) i >>> (4 &&& 31))), (2, .int ((olsS (I (scell xz)) (I 32) i).1)), (0, .ref (g.1 + (ncell xz))), (1, .ref (g.1 + 32))]) dX3_openLessShut_193 4 rfl (nx_inc rfl) (by decide) rfl ?_
      refine v_goto (tgt := 7) dX3_openLessShut_196 (by decide) ?_
      refine v_sub (lv2 := [(4, .int (nI (i + 1))), (3, .int ((olsS (I (scell xz)) (I 32) i).2 ^^^ (1 : Int32))), (2, .int ((olsS (I (scell xz)) (I 32) i).1)), (0, .ref (g.1 + (ncell xz))), (1, .ref (g.1 + 32))]) [0, 1, 5, 6, 7] rfl ?_
      refine v_lv (lv2 := [(4, .int (nI (i + 1))), (3, .int ((olsS (I (scell xz)) (I 32) (i + 1)).2)), (2, .int ((olsS (I (scell xz)) (I 32) (i + 1)).1)), (0, .ref (g.1 + (ncell xz))), (1, .ref (g.1 + 32))]) (by first | (rw [olsS, stpO, ifc_t k3_0]; done) | (rw [olsS, stpO, ifc_t k3_0]; rfl) | (rw [olsS, stpO, ifc_t k3_0]; unfold opO; rw [ifc_t k3_0]; done) | (rw [olsS, stpO, ifc_t k3_0]; unfold opO; rw [ifc_t k3_0]; rfl)) ?_
      exact ih
    by_cases k3_1 : (I (scell xz) i &&& (15 : Int32)) = 1
    · refine v_is k3_1 ?_
      refine v_tabIn (off := 46) (tgt := 99) dX3_openLessShut_53 (by decide) (by decide) (by decide) (by decide) ?_
      refine v_iload_n dX3_openLessShut_99 rfl 4 rfl ?_
      refine v_iconst (v := 1) dX3_openLessShut_100 (by decide) ?_
      refine v_iushr dX3_openLessShut_101 ?_
      refine v_iload_n dX3_openLessShut_102 rfl 4 rfl ?_
      refine v_bipush (v := (-2)) dX3_openLessShut_103 (by decide) ?_
      refine v_ior dX3_openLessShut_105 ?_
      refine v_iand dX3_openLessShut_106 ?_
      refine v_istore_n (lv2 := [(3, .int ((((olsS (I (scell xz)) (I 32) i).2).toUInt32 >>> (Int32.toUInt32 1 &&& Int32.toUInt32 31)).toInt32 &&& ((olsS (I (scell xz)) (I 32) i).2 ||| ((-2) : Int32)))), (7, .int ((I (scell xz) i >>> (4 &&& 31)) >>> (3 &&& 31))), (6, .int (I 32 (lo7 (I (scell xz) i >>> (4 &&& 31))))), (5, .int (I (scell xz) i >>> (4 &&& 31))), (4, .int (nI i)), (2, .int ((olsS (I (scell xz)) (I 32) i).1)), (0, .ref (g.1 + (ncell xz))), (1, .ref (g.1 + 32))]) dX3_openLessShut_107 rfl (by decide) rfl ?_
      refine v_goto (tgt := 193) dX3_openLessShut_108 (by decide) ?_
      refine v_inc (v := nI (i + 1)) (lv2 := [(4, .int (nI (i + 1))), (3, .int ((((olsS (I (scell xz)) (I 32) i).2).toUInt32 >>> (Int32.toUInt32 1 &&& Int32.toUInt32 31)).toInt32 &&& ((olsS (I (scell xz)) (I 32) i).2 ||| ((-2) : Int32)))), (7, .int ((I (scell xz) i >>> (4 &&& 31)) >>> (3 &&& 31))), (6, .int (I 32 (lo7 (I (scell xz) i >>> (4 &&& 31))))), (5, .int (I (scell xz) i >>> (4 &&& 31))), (2, .int ((olsS (I (scell xz)) (I 32) i).1)), (0, .ref (g.1 + (ncell xz))), (1, .ref (g.1 + 32))]) dX3_openLessShut_193 4 rfl (nx_inc rfl) (by decide) rfl ?_
      refine v_goto (tgt := 7) dX3_openLessShut_196 (by decide) ?_
      refine v_sub (lv2 := [(4, .int (nI (i + 1))), (3, .int ((((olsS (I (scell xz)) (I 32) i).2).toUInt32 >>> (Int32.toUInt32 1 &&& Int32.toUInt32 31)).toInt32 &&& ((olsS (I (scell xz)) (I 32) i).2 ||| ((-2) : Int32)))), (2, .int ((olsS (I (scell xz)) (I 32) i).1)), (0, .ref (g.1 + (ncell xz))), (1, .ref (g.1 + 32))]) [0, 1, 5, 6, 7] rfl ?_
      refine v_lv (lv2 := [(4, .int (nI (i + 1))), (3, .int ((olsS (I (scell xz)) (I 32) (i + 1)).2)), (2, .int ((olsS (I (scell xz)) (I 32) (i + 1)).1)), (0, .ref (g.1 + (ncell xz))), (1, .ref (g.1 + 32))]) (by first | (rw [olsS, stpO, ifc_f k3_0, ifc_t k3_1]; done) | (rw [olsS, stpO, ifc_f k3_0, ifc_t k3_1]; rfl) | (rw [olsS, stpO, ifc_f k3_0, ifc_t k3_1]; unfold opO; rw [ifc_t k3_1]; done) | (rw [olsS, stpO, ifc_f k3_0, ifc_t k3_1]; unfold opO; rw [ifc_t k3_1]; rfl)) ?_
      exact ih
    by_cases k3_2 : (I (scell xz) i &&& (15 : Int32)) = 2
    · refine v_is k3_2 ?_
      refine v_tabIn (off := 58) (tgt := 111) dX3_openLessShut_53 (by decide) (by decide) (by decide) (by decide) ?_
      refine v_iload_n dX3_openLessShut_111 rfl 4 rfl ?_
      refine v_iconst (v := 1) dX3_openLessShut_112 (by decide) ?_
      refine v_iushr dX3_openLessShut_113 ?_
      refine v_iload_n dX3_openLessShut_114 rfl 4 rfl ?_
      refine v_iconst (v := 1) dX3_openLessShut_115 (by decide) ?_
      refine v_iand dX3_openLessShut_116 ?_
      refine v_ior dX3_openLessShut_117 ?_
      refine v_istore_n (lv2 := [(3, .int ((((olsS (I (scell xz)) (I 32) i).2).toUInt32 >>> (Int32.toUInt32 1 &&& Int32.toUInt32 31)).toInt32 ||| ((olsS (I (scell xz)) (I 32) i).2 &&& (1 : Int32)))), (7, .int ((I (scell xz) i >>> (4 &&& 31)) >>> (3 &&& 31))), (6, .int (I 32 (lo7 (I (scell xz) i >>> (4 &&& 31))))), (5, .int (I (scell xz) i >>> (4 &&& 31))), (4, .int (nI i)), (2, .int ((olsS (I (scell xz)) (I 32) i).1)), (0, .ref (g.1 + (ncell xz))), (1, .ref (g.1 + 32))]) dX3_openLessShut_118 rfl (by decide) rfl ?_
      refine v_goto (tgt := 193) dX3_openLessShut_119 (by decide) ?_
      refine v_inc (v := nI (i + 1)) (lv2 := [(4, .int (nI (i + 1))), (3, .int ((((olsS (I (scell xz)) (I 32) i).2).toUInt32 >>> (Int32.toUInt32 1 &&& Int32.toUInt32 31)).toInt32 ||| ((olsS (I (scell xz)) (I 32) i).2 &&& (1 : Int32)))), (7, .int ((I (scell xz) i >>> (4 &&& 31)) >>> (3 &&& 31))), (6, .int (I 32 (lo7 (I (scell xz) i >>> (4 &&& 31))))), (5, .int (I (scell xz) i >>> (4 &&& 31))), (2, .int ((olsS (I (scell xz)) (I 32) i).1)), (0, .ref (g.1 + (ncell xz))), (1, .ref (g.1 + 32))]) dX3_openLessShut_193 4 rfl (nx_inc rfl) (by decide) rfl ?_
      refine v_goto (tgt := 7) dX3_openLessShut_196 (by decide) ?_
      refine v_sub (lv2 := [(4, .int (nI (i + 1))), (3, .int ((((olsS (I (scell xz)) (I 32) i).2).toUInt32 >>> (Int32.toUInt32 1 &&& Int32.toUInt32 31)).toInt32 ||| ((olsS (I (scell xz)) (I 32) i).2 &&& (1 : Int32)))), (2, .int ((olsS (I (scell xz)) (I 32) i).1)), (0, .ref (g.1 + (ncell xz))), (1, .ref (g.1 + 32))]) [0, 1, 5, 6, 7] rfl ?_
      refine v_lv (lv2 := [(4, .int (nI (i + 1))), (3, .int ((olsS (I (scell xz)) (I 32) (i + 1)).2)), (2, .int ((olsS (I (scell xz)) (I 32) (i + 1)).1)), (0, .ref (g.1 + (ncell xz))), (1, .ref (g.1 + 32))]) (by first | (rw [olsS, stpO, ifc_f k3_0, ifc_f k3_1, ifc_t k3_2]; done) | (rw [olsS, stpO, ifc_f k3_0, ifc_f k3_1, ifc_t k3_2]; rfl) | (rw [olsS, stpO, ifc_f k3_0, ifc_f k3_1, ifc_t k3_2]; unfold opO; rw [ifc_t k3_2]; done) | (rw [olsS, stpO, ifc_f k3_0, ifc_f k3_1, ifc_t k3_2]; unfold opO; rw [ifc_t k3_2]; rfl)) ?_
      exact ih
    by_cases k3_3 : (I (scell xz) i &&& (15 : Int32)) = 3
    · refine v_is k3_3 ?_
      refine v_tabIn (off := 69) (tgt := 122) dX3_openLessShut_53 (by decide) (by decide) (by decide) (by decide) ?_
      refine v_iload_n dX3_openLessShut_122 rfl 5 rfl ?_
      refine v_iload_n dX3_openLessShut_123 rfl 4 rfl ?_
      refine v_iconst (v := 1) dX3_openLessShut_124 (by decide) ?_
      refine v_iand dX3_openLessShut_125 ?_
      refine v_iload dX3_openLessShut_126 2 rfl ?_
      refine v_imul dX3_openLessShut_128 ?_
      refine v_iadd dX3_openLessShut_129 ?_
      refine v_istore_n (lv2 := [(2, .int ((olsS (I (scell xz)) (I 32) i).1 + (((olsS (I (scell xz)) (I 32) i).2 &&& (1 : Int32)) * (I (scell xz) i >>> (4 &&& 31))))), (7, .int ((I (scell xz) i >>> (4 &&& 31)) >>> (3 &&& 31))), (6, .int (I 32 (lo7 (I (scell xz) i >>> (4 &&& 31))))), (5, .int (I (scell xz) i >>> (4 &&& 31))), (4, .int (nI i)), (3, .int ((olsS (I (scell xz)) (I 32) i).2)), (0, .ref (g.1 + (ncell xz))), (1, .ref (g.1 + 32))]) dX3_openLessShut_130 rfl (by decide) rfl ?_
      refine v_iconst (v := 0) dX3_openLessShut_131 (by decide) ?_
      refine v_istore_n (lv2 := [(3, .int 0), (2, .int ((olsS (I (scell xz)) (I 32) i).1 + (((olsS (I (scell xz)) (I 32) i).2 &&& (1 : Int32)) * (I (scell xz) i >>> (4 &&& 31))))), (7, .int ((I (scell xz) i >>> (4 &&& 31)) >>> (3 &&& 31))), (6, .int (I 32 (lo7 (I (scell xz) i >>> (4 &&& 31))))), (5, .int (I (scell xz) i >>> (4 &&& 31))), (4, .int (nI i)), (0, .ref (g.1 + (ncell xz))), (1, .ref (g.1 + 32))]) dX3_openLessShut_132 rfl (by decide) rfl ?_
      refine v_goto (tgt := 193) dX3_openLessShut_133 (by decide) ?_
      refine v_inc (v := nI (i + 1)) (lv2 := [(4, .int (nI (i + 1))), (3, .int 0), (2, .int ((olsS (I (scell xz)) (I 32) i).1 + (((olsS (I (scell xz)) (I 32) i).2 &&& (1 : Int32)) * (I (scell xz) i >>> (4 &&& 31))))), (7, .int ((I (scell xz) i >>> (4 &&& 31)) >>> (3 &&& 31))), (6, .int (I 32 (lo7 (I (scell xz) i >>> (4 &&& 31))))), (5, .int (I (scell xz) i >>> (4 &&& 31))), (0, .ref (g.1 + (ncell xz))), (1, .ref (g.1 + 32))]) dX3_openLessShut_193 5 rfl (nx_inc rfl) (by decide) rfl ?_
      refine v_goto (tgt := 7) dX3_openLessShut_196 (by decide) ?_
      refine v_sub (lv2 := [(4, .int (nI (i + 1))), (3, .int 0), (2, .int ((olsS (I (scell xz)) (I 32) i).1 + (((olsS (I (scell xz)) (I 32) i).2 &&& (1 : Int32)) * (I (scell xz) i >>> (4 &&& 31))))), (0, .ref (g.1 + (ncell xz))), (1, .ref (g.1 + 32))]) [0, 1, 2, 6, 7] rfl ?_
      refine v_lv (lv2 := [(4, .int (nI (i + 1))), (3, .int ((olsS (I (scell xz)) (I 32) (i + 1)).2)), (2, .int ((olsS (I (scell xz)) (I 32) (i + 1)).1)), (0, .ref (g.1 + (ncell xz))), (1, .ref (g.1 + 32))]) (by first | (rw [olsS, stpO, ifc_f k3_0, ifc_f k3_1, ifc_f k3_2, ifc_t k3_3]; done) | (rw [olsS, stpO, ifc_f k3_0, ifc_f k3_1, ifc_f k3_2, ifc_t k3_3]; rfl) | (rw [olsS, stpO, ifc_f k3_0, ifc_f k3_1, ifc_f k3_2, ifc_t k3_3]; unfold opO; rw [ifc_t k3_3]; done) | (rw [olsS, stpO, ifc_f k3_0, ifc_f k3_1, ifc_f k3_2, ifc_t k3_3]; unfold opO; rw [ifc_t k3_3]; rfl)) ?_
      exact ih
    by_cases k3_4 : (I (scell xz) i &&& (15 : Int32)) = 4
    · refine v_is k3_4 ?_
      refine v_tabIn (off := 83) (tgt := 136) dX3_openLessShut_53 (by decide) (by decide) (by decide) (by decide) ?_
      refine v_iload_n dX3_openLessShut_136 rfl 4 rfl ?_
      refine v_iconst (v := 1) dX3_openLessShut_137 (by decide) ?_
      refine v_ishl dX3_openLessShut_138 ?_
      refine v_iload dX3_openLessShut_139 1 rfl ?_
      refine v_iload dX3_openLessShut_141 0 rfl ?_
      refine v_icmp_ge (tgt := 150) dX3_openLessShut_143 (by decide) (fun h4 => ?_) (fun h4 => ?_)
      · -- I 32 (lo7 (I (scell xz) i >>> (4 &&& 31))) ge ((I (scell xz) i >>> (4 &&& 31)) >>> (3 &&& 31))
        have h4n := Int32.not_lt.mpr h4
        refine v_iconst (v := 0) dX3_openLessShut_150 (by decide) ?_
        refine v_ior dX3_openLessShut_151 ?_
        refine v_istore_n (lv2 := [(3, .int (((olsS (I (scell xz)) (I 32) i).2 <<< (1 &&& 31)) ||| (0 : Int32))), (7, .int ((I (scell xz) i >>> (4 &&& 31)) >>> (3 &&& 31))), (6, .int (I 32 (lo7 (I (scell xz) i >>> (4 &&& 31))))), (5, .int (I (scell xz) i >>> (4 &&& 31))), (4, .int (nI i)), (2, .int ((olsS (I (scell xz)) (I 32) i).1)), (0, .ref (g.1 + (ncell xz))), (1, .ref (g.1 + 32))]) dX3_openLessShut_152 rfl (by decide) rfl ?_
        refine v_goto (tgt := 193) dX3_openLessShut_153 (by decide) ?_
        refine v_inc (v := nI (i + 1)) (lv2 := [(4, .int (nI (i + 1))), (3, .int (((olsS (I (scell xz)) (I 32) i).2 <<< (1 &&& 31)) ||| (0 : Int32))), (7, .int ((I (scell xz) i >>> (4 &&& 31)) >>> (3 &&& 31))), (6, .int (I 32 (lo7 (I (scell xz) i >>> (4 &&& 31))))), (5, .int (I (scell xz) i >>> (4 &&& 31))), (2, .int ((olsS (I (scell xz)) (I 32) i).1)), (0, .ref (g.1 + (ncell xz))), (1, .ref (g.1 + 32))]) dX3_openLessShut_193 4 rfl (nx_inc rfl) (by decide) rfl ?_
        refine v_goto (tgt := 7) dX3_openLessShut_196 (by decide) ?_
        refine v_sub (lv2 := [(4, .int (nI (i + 1))), (3, .int (((olsS (I (scell xz)) (I 32) i).2 <<< (1 &&& 31)) ||| (0 : Int32))), (2, .int ((olsS (I (scell xz)) (I 32) i).1)), (0, .ref (g.1 + (ncell xz))), (1, .ref (g.1 + 32))]) [0, 1, 5, 6, 7] rfl ?_
        refine v_lv (lv2 := [(4, .int (nI (i + 1))), (3, .int ((olsS (I (scell xz)) (I 32) (i + 1)).2)), (2, .int ((olsS (I (scell xz)) (I 32) (i + 1)).1)), (0, .ref (g.1 + (ncell xz))), (1, .ref (g.1 + 32))]) (by first | (rw [olsS, stpO, ifc_f k3_0, ifc_f k3_1, ifc_f k3_2, ifc_f k3_3, ifc_t k3_4]; done) | (rw [olsS, stpO, ifc_f k3_0, ifc_f k3_1, ifc_f k3_2, ifc_f k3_3, ifc_t k3_4]; rfl) | (rw [olsS, stpO, ifc_f k3_0, ifc_f k3_1, ifc_f k3_2, ifc_f k3_3, ifc_t k3_4]; unfold opO; rw [ifc_f h4n]; done) | (rw [olsS, stpO, ifc_f k3_0, ifc_f k3_1, ifc_f k3_2, ifc_f k3_3, ifc_t k3_4]; unfold opO; rw [ifc_f h4n]; rfl)) ?_
        exact ih
      · -- I 32 (lo7 (I (scell xz) i >>> (4 &&& 31))) lt ((I (scell xz) i >>> (4 &&& 31)) >>> (3 &&& 31))
        have h4n := Int32.not_le.mp h4
        refine v_iconst (v := 1) dX3_openLessShut_146 (by decide) ?_
        refine v_goto (tgt := 151) dX3_openLessShut_147 (by decide) ?_
        refine v_ior dX3_openLessShut_151 ?_
        refine v_istore_n (lv2 := [(3, .int (((olsS (I (scell xz)) (I 32) i).2 <<< (1 &&& 31)) ||| (1 : Int32))), (7, .int ((I (scell xz) i >>> (4 &&& 31)) >>> (3 &&& 31))), (6, .int (I 32 (lo7 (I (scell xz) i >>> (4 &&& 31))))), (5, .int (I (scell xz) i >>> (4 &&& 31))), (4, .int (nI i)), (2, .int ((olsS (I (scell xz)) (I 32) i).1)), (0, .ref (g.1 + (ncell xz))), (1, .ref (g.1 + 32))]) dX3_openLessShut_152 rfl (by decide) rfl ?_
        refine v_goto (tgt := 193) dX3_openLessShut_153 (by decide) ?_
        refine v_inc (v := nI (i + 1)) (lv2 := [(4, .int (nI (i + 1))), (3, .int (((olsS (I (scell xz)) (I 32) i).2 <<< (1 &&& 31)) ||| (1 : Int32))), (7, .int ((I (scell xz) i >>> (4 &&& 31)) >>> (3 &&& 31))), (6, .int (I 32 (lo7 (I (scell xz) i >>> (4 &&& 31))))), (5, .int (I (scell xz) i >>> (4 &&& 31))), (2, .int ((olsS (I (scell xz)) (I 32) i).1)), (0, .ref (g.1 + (ncell xz))), (1, .ref (g.1 + 32))]) dX3_openLessShut_193 4 rfl (nx_inc rfl) (by decide) rfl ?_
        refine v_goto (tgt := 7) dX3_openLessShut_196 (by decide) ?_
        refine v_sub (lv2 := [(4, .int (nI (i + 1))), (3, .int (((olsS (I (scell xz)) (I 32) i).2 <<< (1 &&& 31)) ||| (1 : Int32))), (2, .int ((olsS (I (scell xz)) (I 32) i).1)), (0, .ref (g.1 + (ncell xz))), (1, .ref (g.1 + 32))]) [0, 1, 5, 6, 7] rfl ?_
        refine v_lv (lv2 := [(4, .int (nI (i + 1))), (3, .int ((olsS (I (scell xz)) (I 32) (i + 1)).2)), (2, .int ((olsS (I (scell xz)) (I 32) (i + 1)).1)), (0, .ref (g.1 + (ncell xz))), (1, .ref (g.1 + 32))]) (by first | (rw [olsS, stpO, ifc_f k3_0, ifc_f k3_1, ifc_f k3_2, ifc_f k3_3, ifc_t k3_4]; done) | (rw [olsS, stpO, ifc_f k3_0, ifc_f k3_1, ifc_f k3_2, ifc_f k3_3, ifc_t k3_4]; rfl) | (rw [olsS, stpO, ifc_f k3_0, ifc_f k3_1, ifc_f k3_2, ifc_f k3_3, ifc_t k3_4]; unfold opO; rw [ifc_t h4n]; done) | (rw [olsS, stpO, ifc_f k3_0, ifc_f k3_1, ifc_f k3_2, ifc_f k3_3, ifc_t k3_4]; unfold opO; rw [ifc_t h4n]; rfl)) ?_
        exact ih
    by_cases k3_5 : (I (scell xz) i &&& (15 : Int32)) = 5
    · refine v_is k3_5 ?_
      refine v_tabIn (off := 103) (tgt := 156) dX3_openLessShut_53 (by decide) (by decide) (by decide) (by decide) ?_
      refine v_iload_n dX3_openLessShut_156 rfl 4 rfl ?_
      refine v_iconst (v := 1) dX3_openLessShut_157 (by decide) ?_
      refine v_ishl dX3_openLessShut_158 ?_
      refine v_iload dX3_openLessShut_159 1 rfl ?_
      refine v_iload dX3_openLessShut_161 0 rfl ?_
      refine v_icmp_ne (tgt := 170) dX3_openLessShut_163 (by decide) (fun h5 => ?_) (fun h5 => ?_)
      · -- I 32 (lo7 (I (scell xz) i >>> (4 &&& 31))) ne ((I (scell xz) i >>> (4 &&& 31)) >>> (3 &&& 31))
        refine v_iconst (v := 0) dX3_openLessShut_170 (by decide) ?_
        refine v_ior dX3_openLessShut_171 ?_
        refine v_istore_n (lv2 := [(3, .int (((olsS (I (scell xz)) (I 32) i).2 <<< (1 &&& 31)) ||| (0 : Int32))), (7, .int ((I (scell xz) i >>> (4 &&& 31)) >>> (3 &&& 31))), (6, .int (I 32 (lo7 (I (scell xz) i >>> (4 &&& 31))))), (5, .int (I (scell xz) i >>> (4 &&& 31))), (4, .int (nI i)), (2, .int ((olsS (I (scell xz)) (I 32) i).1)), (0, .ref (g.1 + (ncell xz))), (1, .ref (g.1 + 32))]) dX3_openLessShut_172 rfl (by decide) rfl ?_
        refine v_goto (tgt := 193) dX3_openLessShut_173 (by decide) ?_
        refine v_inc (v := nI (i + 1)) (lv2 := [(4, .int (nI (i + 1))), (3, .int (((olsS (I (scell xz)) (I 32) i).2 <<< (1 &&& 31)) ||| (0 : Int32))), (7, .int ((I (scell xz) i >>> (4 &&& 31)) >>> (3 &&& 31))), (6, .int (I 32 (lo7 (I (scell xz) i >>> (4 &&& 31))))), (5, .int (I (scell xz) i >>> (4 &&& 31))), (2, .int ((olsS (I (scell xz)) (I 32) i).1)), (0, .ref (g.1 + (ncell xz))), (1, .ref (g.1 + 32))]) dX3_openLessShut_193 4 rfl (nx_inc rfl) (by decide) rfl ?_
        refine v_goto (tgt := 7) dX3_openLessShut_196 (by decide) ?_
        refine v_sub (lv2 := [(4, .int (nI (i + 1))), (3, .int (((olsS (I (scell xz)) (I 32) i).2 <<< (1 &&& 31)) ||| (0 : Int32))), (2, .int ((olsS (I (scell xz)) (I 32) i).1)), (0, .ref (g.1 + (ncell xz))), (1, .ref (g.1 + 32))]) [0, 1, 5, 6, 7] rfl ?_
        refine v_lv (lv2 := [(4, .int (nI (i + 1))), (3, .int ((olsS (I (scell xz)) (I 32) (i + 1)).2)), (2, .int ((olsS (I (scell xz)) (I 32) (i + 1)).1)), (0, .ref (g.1 + (ncell xz))), (1, .ref (g.1 + 32))]) (by first | (rw [olsS, stpO, ifc_f k3_0, ifc_f k3_1, ifc_f k3_2, ifc_f k3_3, ifc_f k3_4, ifc_t k3_5]; done) | (rw [olsS, stpO, ifc_f k3_0, ifc_f k3_1, ifc_f k3_2, ifc_f k3_3, ifc_f k3_4, ifc_t k3_5]; rfl) | (rw [olsS, stpO, ifc_f k3_0, ifc_f k3_1, ifc_f k3_2, ifc_f k3_3, ifc_f k3_4, ifc_t k3_5]; unfold opO; rw [ifc_f h5]; done) | (rw [olsS, stpO, ifc_f k3_0, ifc_f k3_1, ifc_f k3_2, ifc_f k3_3, ifc_f k3_4, ifc_t k3_5]; unfold opO; rw [ifc_f h5]; rfl)) ?_
        exact ih
      · -- I 32 (lo7 (I (scell xz) i >>> (4 &&& 31))) eq ((I (scell xz) i >>> (4 &&& 31)) >>> (3 &&& 31))
        refine v_iconst (v := 1) dX3_openLessShut_166 (by decide) ?_
        refine v_goto (tgt := 171) dX3_openLessShut_167 (by decide) ?_
        refine v_ior dX3_openLessShut_171 ?_
        refine v_istore_n (lv2 := [(3, .int (((olsS (I (scell xz)) (I 32) i).2 <<< (1 &&& 31)) ||| (1 : Int32))), (7, .int ((I (scell xz) i >>> (4 &&& 31)) >>> (3 &&& 31))), (6, .int (I 32 (lo7 (I (scell xz) i >>> (4 &&& 31))))), (5, .int (I (scell xz) i >>> (4 &&& 31))), (4, .int (nI i)), (2, .int ((olsS (I (scell xz)) (I 32) i).1)), (0, .ref (g.1 + (ncell xz))), (1, .ref (g.1 + 32))]) dX3_openLessShut_172 rfl (by decide) rfl ?_
        refine v_goto (tgt := 193) dX3_openLessShut_173 (by decide) ?_
        refine v_inc (v := nI (i + 1)) (lv2 := [(4, .int (nI (i + 1))), (3, .int (((olsS (I (scell xz)) (I 32) i).2 <<< (1 &&& 31)) ||| (1 : Int32))), (7, .int ((I (scell xz) i >>> (4 &&& 31)) >>> (3 &&& 31))), (6, .int (I 32 (lo7 (I (scell xz) i >>> (4 &&& 31))))), (5, .int (I (scell xz) i >>> (4 &&& 31))), (2, .int ((olsS (I (scell xz)) (I 32) i).1)), (0, .ref (g.1 + (ncell xz))), (1, .ref (g.1 + 32))]) dX3_openLessShut_193 4 rfl (nx_inc rfl) (by decide) rfl ?_
        refine v_goto (tgt := 7) dX3_openLessShut_196 (by decide) ?_
        refine v_sub (lv2 := [(4, .int (nI (i + 1))), (3, .int (((olsS (I (scell xz)) (I 32) i).2 <<< (1 &&& 31)) ||| (1 : Int32))), (2, .int ((olsS (I (scell xz)) (I 32) i).1)), (0, .ref (g.1 + (ncell xz))), (1, .ref (g.1 + 32))]) [0, 1, 5, 6, 7] rfl ?_
        refine v_lv (lv2 := [(4, .int (nI (i + 1))), (3, .int ((olsS (I (scell xz)) (I 32) (i + 1)).2)), (2, .int ((olsS (I (scell xz)) (I 32) (i + 1)).1)), (0, .ref (g.1 + (ncell xz))), (1, .ref (g.1 + 32))]) (by first | (rw [olsS, stpO, ifc_f k3_0, ifc_f k3_1, ifc_f k3_2, ifc_f k3_3, ifc_f k3_4, ifc_t k3_5]; done) | (rw [olsS, stpO, ifc_f k3_0, ifc_f k3_1, ifc_f k3_2, ifc_f k3_3, ifc_f k3_4, ifc_t k3_5]; rfl) | (rw [olsS, stpO, ifc_f k3_0, ifc_f k3_1, ifc_f k3_2, ifc_f k3_3, ifc_f k3_4, ifc_t k3_5]; unfold opO; rw [ifc_t h5]; done) | (rw [olsS, stpO, ifc_f k3_0, ifc_f k3_1, ifc_f k3_2, ifc_f k3_3, ifc_f k3_4, ifc_t k3_5]; unfold opO; rw [ifc_t h5]; rfl)) ?_
        exact ih
    have t6 : (I (scell xz) i &&& (15 : Int32)).toInt < 0 ∨ 5 < (I (scell xz) i &&& (15 : Int32)).toInt := by
      rcases sw_out (I (scell xz) i &&& (15 : Int32)) (0) (5) with h | h | ⟨ha, hb⟩
      · exact Or.inl h
      · exact Or.inr h
      · exfalso
        have hz : ∀ z : Int, 0 ≤ z → z ≤ 5 → z = 0 ∨ z = 1 ∨ z = 2 ∨ z = 3 ∨ z = 4 ∨ z = 5 := by omega
        rcases hz _ ha hb with e | e | e | e | e | e
        · exact absurd (sw_eq (k := 0) e (by decide)) k3_0
        · exact absurd (sw_eq (k := 1) e (by decide)) k3_1
        · exact absurd (sw_eq (k := 2) e (by decide)) k3_2
        · exact absurd (sw_eq (k := 3) e (by decide)) k3_3
        · exact absurd (sw_eq (k := 4) e (by decide)) k3_4
        · exact absurd (sw_eq (k := 5) e (by decide)) k3_5
    refine v_tabOut (tgt := 176) dX3_openLessShut_53 t6 (by decide) ?_
    refine v_iload_n dX3_openLessShut_176 rfl 4 rfl ?_
    refine v_iconst (v := 1) dX3_openLessShut_177 (by decide) ?_
    refine v_ishl dX3_openLessShut_178 ?_
    refine v_iload dX3_openLessShut_179 1 rfl ?_
    refine v_iload dX3_openLessShut_181 0 rfl ?_
    refine v_icmp_le (tgt := 190) dX3_openLessShut_183 (by decide) (fun h7 => ?_) (fun h7 => ?_)
    · -- I 32 (lo7 (I (scell xz) i >>> (4 &&& 31))) le ((I (scell xz) i >>> (4 &&& 31)) >>> (3 &&& 31))
      have h7n := Int32.not_lt.mpr h7
      refine v_iconst (v := 0) dX3_openLessShut_190 (by decide) ?_
      refine v_ior dX3_openLessShut_191 ?_
      refine v_istore_n (lv2 := [(3, .int (((olsS (I (scell xz)) (I 32) i).2 <<< (1 &&& 31)) ||| (0 : Int32))), (7, .int ((I (scell xz) i >>> (4 &&& 31)) >>> (3 &&& 31))), (6, .int (I 32 (lo7 (I (scell xz) i >>> (4 &&& 31))))), (5, .int (I (scell xz) i >>> (4 &&& 31))), (4, .int (nI i)), (2, .int ((olsS (I (scell xz)) (I 32) i).1)), (0, .ref (g.1 + (ncell xz))), (1, .ref (g.1 + 32))]) dX3_openLessShut_192 rfl (by decide) rfl ?_
      refine v_inc (v := nI (i + 1)) (lv2 := [(4, .int (nI (i + 1))), (3, .int (((olsS (I (scell xz)) (I 32) i).2 <<< (1 &&& 31)) ||| (0 : Int32))), (7, .int ((I (scell xz) i >>> (4 &&& 31)) >>> (3 &&& 31))), (6, .int (I 32 (lo7 (I (scell xz) i >>> (4 &&& 31))))), (5, .int (I (scell xz) i >>> (4 &&& 31))), (2, .int ((olsS (I (scell xz)) (I 32) i).1)), (0, .ref (g.1 + (ncell xz))), (1, .ref (g.1 + 32))]) dX3_openLessShut_193 4 rfl (nx_inc rfl) (by decide) rfl ?_
      refine v_goto (tgt := 7) dX3_openLessShut_196 (by decide) ?_
      refine v_sub (lv2 := [(4, .int (nI (i + 1))), (3, .int (((olsS (I (scell xz)) (I 32) i).2 <<< (1 &&& 31)) ||| (0 : Int32))), (2, .int ((olsS (I (scell xz)) (I 32) i).1)), (0, .ref (g.1 + (ncell xz))), (1, .ref (g.1 + 32))]) [0, 1, 5, 6, 7] rfl ?_
      refine v_lv (lv2 := [(4, .int (nI (i + 1))), (3, .int ((olsS (I (scell xz)) (I 32) (i + 1)).2)), (2, .int ((olsS (I (scell xz)) (I 32) (i + 1)).1)), (0, .ref (g.1 + (ncell xz))), (1, .ref (g.1 + 32))]) (by first | (rw [olsS, stpO, ifc_f k3_0, ifc_f k3_1, ifc_f k3_2, ifc_f k3_3, ifc_f k3_4, ifc_f k3_5]; done) | (rw [olsS, stpO, ifc_f k3_0, ifc_f k3_1, ifc_f k3_2, ifc_f k3_3, ifc_f k3_4, ifc_f k3_5]; rfl) | (rw [olsS, stpO, ifc_f k3_0, ifc_f k3_1, ifc_f k3_2, ifc_f k3_3, ifc_f k3_4, ifc_f k3_5]; unfold opO; rw [ifc_f h7n]; done) | (rw [olsS, stpO, ifc_f k3_0, ifc_f k3_1, ifc_f k3_2, ifc_f k3_3, ifc_f k3_4, ifc_f k3_5]; unfold opO; rw [ifc_f h7n]; rfl)) ?_
      exact ih
    · -- I 32 (lo7 (I (scell xz) i >>> (4 &&& 31))) gt ((I (scell xz) i >>> (4 &&& 31)) >>> (3 &&& 31))
      have h7n := Int32.not_le.mp h7
      refine v_iconst (v := 1) dX3_openLessShut_186 (by decide) ?_
      refine v_goto (tgt := 191) dX3_openLessShut_187 (by decide) ?_
      refine v_ior dX3_openLessShut_191 ?_
      refine v_istore_n (lv2 := [(3, .int (((olsS (I (scell xz)) (I 32) i).2 <<< (1 &&& 31)) ||| (1 : Int32))), (7, .int ((I (scell xz) i >>> (4 &&& 31)) >>> (3 &&& 31))), (6, .int (I 32 (lo7 (I (scell xz) i >>> (4 &&& 31))))), (5, .int (I (scell xz) i >>> (4 &&& 31))), (4, .int (nI i)), (2, .int ((olsS (I (scell xz)) (I 32) i).1)), (0, .ref (g.1 + (ncell xz))), (1, .ref (g.1 + 32))]) dX3_openLessShut_192 rfl (by decide) rfl ?_
      refine v_inc (v := nI (i + 1)) (lv2 := [(4, .int (nI (i + 1))), (3, .int (((olsS (I (scell xz)) (I 32) i).2 <<< (1 &&& 31)) ||| (1 : Int32))), (7, .int ((I (scell xz) i >>> (4 &&& 31)) >>> (3 &&& 31))), (6, .int (I 32 (lo7 (I (scell xz) i >>> (4 &&& 31))))), (5, .int (I (scell xz) i >>> (4 &&& 31))), (2, .int ((olsS (I (scell xz)) (I 32) i).1)), (0, .ref (g.1 + (ncell xz))), (1, .ref (g.1 + 32))]) dX3_openLessShut_193 4 rfl (nx_inc rfl) (by decide) rfl ?_
      refine v_goto (tgt := 7) dX3_openLessShut_196 (by decide) ?_
      refine v_sub (lv2 := [(4, .int (nI (i + 1))), (3, .int (((olsS (I (scell xz)) (I 32) i).2 <<< (1 &&& 31)) ||| (1 : Int32))), (2, .int ((olsS (I (scell xz)) (I 32) i).1)), (0, .ref (g.1 + (ncell xz))), (1, .ref (g.1 + 32))]) [0, 1, 5, 6, 7] rfl ?_
      refine v_lv (lv2 := [(4, .int (nI (i + 1))), (3, .int ((olsS (I (scell xz)) (I 32) (i + 1)).2)), (2, .int ((olsS (I (scell xz)) (I 32) (i + 1)).1)), (0, .ref (g.1 + (ncell xz))), (1, .ref (g.1 + 32))]) (by first | (rw [olsS, stpO, ifc_f k3_0, ifc_f k3_1, ifc_f k3_2, ifc_f k3_3, ifc_f k3_4, ifc_f k3_5]; done) | (rw [olsS, stpO, ifc_f k3_0, ifc_f k3_1, ifc_f k3_2, ifc_f k3_3, ifc_f k3_4, ifc_f k3_5]; rfl) | (rw [olsS, stpO, ifc_f k3_0, ifc_f k3_1, ifc_f k3_2, ifc_f k3_3, ifc_f k3_4, ifc_f k3_5]; unfold opO; rw [ifc_t h7n]; done) | (rw [olsS, stpO, ifc_f k3_0, ifc_f k3_1, ifc_f k3_2, ifc_f k3_3, ifc_f k3_4, ifc_f k3_5]; unfold opO; rw [ifc_t h7n]; rfl)) ?_
      exact ih
set_option maxRecDepth 100000 in
set_option maxHeartbeats 1000000 in
theorem c_ols_33 {g : Gl} {I : Ty} {L : TL} {na nt ni m : Nat} {nl : Nat → Nat}  (xz : Nat) (hxz : 2 * xz ≤ m) (hsl : sln nl xz ≤ 100) : Ct g yX3_openLessShut cX3_openLessShut 8 (some .int) 0 0 0 [.ref (g.1 + (ncell xz)), .ref (g.1 + 42)] I L (RT na nt ni) (NT nl) (NB + m) (Ps (some (.int ((olsS (I (scell xz)) (I 42) (sln nl xz)).1))) (I) L (RT na nt ni) (NT nl) (NB + m)) := by
  refine ct_of (by decide +kernel) (Nat.le_of_ble_eq_true rfl) (fun F hnm hr => ?_)
  clear hnm
  show V g F cX3_openLessShut RX3 8 0 0 [(0, .ref (g.1 + (ncell xz))), (1, .ref (g.1 + 42))] [] I L (RT na nt ni) (NT nl) (NB + m) 0 0
  refine v_iconst (v := 0) dX3_openLessShut_0 (by decide) ?_
  refine v_istore_n (lv2 := [(2, .int 0), (0, .ref (g.1 + (ncell xz))), (1, .ref (g.1 + 42))]) dX3_openLessShut_1 rfl (by decide) rfl ?_
  refine v_iconst (v := 0) dX3_openLessShut_2 (by decide) ?_
  refine v_istore_n (lv2 := [(3, .int 0), (2, .int 0), (0, .ref (g.1 + (ncell xz))), (1, .ref (g.1 + 42))]) dX3_openLessShut_3 rfl (by decide) rfl ?_
  refine v_iconst (v := 0) dX3_openLessShut_4 (by decide) ?_
  refine v_istore (lv2 := [(4, .int 0), (3, .int 0), (2, .int 0), (0, .ref (g.1 + (ncell xz))), (1, .ref (g.1 + 42))]) dX3_openLessShut_5 (by decide) rfl ?_
  refine v_lv (lv2 := [(4, .int (nI 0)), (3, .int ((olsS (I (scell xz)) (I 42) 0).2)), (2, .int ((olsS (I (scell xz)) (I 42) 0).1)), (0, .ref (g.1 + (ncell xz))), (1, .ref (g.1 + 42))]) (by rfl) ?_
  refine dloop (P := fun i => V g F cX3_openLessShut RX3 8 0 7 [(4, .int (nI i)), (3, .int ((olsS (I (scell xz)) (I 42) i).2)), (2, .int ((olsS (I (scell xz)) (I 42) i).1)), (0, .ref (g.1 + (ncell xz))), (1, .ref (g.1 + 42))] [] I L (RT na nt ni) (NT nl) (NB + m) 0 0) (sln nl xz) ?_ ?_ 0 (Nat.zero_le _)
  · refine v_iload dX3_openLessShut_7 0 rfl ?_
    refine v_aload_n dX3_openLessShut_9 rfl 3 rfl ?_
    refine v_get (v := .ref (g.1 + (scell xz))) fa_X3_7 dX3_openLessShut_10 (kd_nc xz) (by decide) (lt_nc hxz) (by show some (va_rf ((RT na nt ni (ncell xz) 1).map _)) = _; rw [RT_nc]; rfl) ?_
    refine v_alen (len := (sln nl xz)) dX3_openLessShut_13 (kd_sc xz) (lt_sc hxz) (NT_sc nl xz) ?_
    refine v_icmp_geN (a := (sln nl xz)) (b := (sln nl xz)) (tgt := 199) dX3_openLessShut_14 (by decide) rfl rfl (by omega) (by omega) (fun h1 => ?_) (fun h => by exfalso; omega)
    refine v_iload_n dX3_openLessShut_199 rfl 2 rfl ?_
    exact v_iret hr dX3_openLessShut_200 (psi rfl rfl)
  · intro i hi ih
    refine v_iload dX3_openLessShut_7 0 rfl ?_
    refine v_aload_n dX3_openLessShut_9 rfl 3 rfl ?_
    refine v_get (v := .ref (g.1 + (scell xz))) fa_X3_7 dX3_openLessShut_10 (kd_nc xz) (by decide) (lt_nc hxz) (by show some (va_rf ((RT na nt ni (ncell xz) 1).map _)) = _; rw [RT_nc]; rfl) ?_
    refine v_alen (len := (sln nl xz)) dX3_openLessShut_13 (kd_sc xz) (lt_sc hxz) (NT_sc nl xz) ?_
    refine v_icmp_geN (a := i) (b := (sln nl xz)) (tgt := 199) dX3_openLessShut_14 (by decide) rfl rfl (by omega) (by omega) (fun h => by exfalso; omega) (fun h2 => ?_)
    refine v_aload_n dX3_openLessShut_17 rfl 3 rfl ?_
    refine v_get (v := .ref (g.1 + (scell xz))) fa_X3_7 dX3_openLessShut_18 (kd_nc xz) (by decide) (lt_nc hxz) (by show some (va_rf ((RT na nt ni (ncell xz) 1).map _)) = _; rw [RT_nc]; rfl) ?_
    refine v_iload dX3_openLessShut_21 0 rfl ?_
    refine v_iaload (len := (sln nl xz)) (j := i) dX3_openLessShut_23 (kd_sc xz) (lt_sc hxz) (NT_sc nl xz) (by omega) rfl (by omega) ?_
    refine v_iconst (v := 4) dX3_openLessShut_24 (by decide) ?_
    refine v_ishr dX3_openLessShut_25 ?_
    refine v_istore (lv2 := [(5, .int (I (scell xz) i >>> (4 &&& 31))), (4, .int (nI i)), (3, .int ((olsS (I (scell xz)) (I 42) i).2)), (2, .int ((olsS (I (scell xz)) (I 42) i).1)), (0, .ref (g.1 + (ncell xz))), (1, .ref (g.1 + 42))]) dX3_openLessShut_26 (by decide) rfl ?_
    refine v_aload_n dX3_openLessShut_28 rfl 5 rfl ?_
    refine v_iload dX3_openLessShut_29 0 rfl ?_
    refine v_bipush (v := 7) dX3_openLessShut_31 (by decide) ?_
    refine v_iand dX3_openLessShut_33 ?_
    refine v_is (lo7_e (I (scell xz) i >>> (4 &&& 31))) ?_
    have h8 := lo7_lt (I (scell xz) i >>> (4 &&& 31))
    refine v_iaload (len := 8) (j := (lo7 (I (scell xz) i >>> (4 &&& 31)))) dX3_openLessShut_34 rfl (ltn rfl) rfl (by decide) rfl (by omega) ?_
    refine v_istore (lv2 := [(6, .int (I 42 (lo7 (I (scell xz) i >>> (4 &&& 31))))), (5, .int (I (scell xz) i >>> (4 &&& 31))), (4, .int (nI i)), (3, .int ((olsS (I (scell xz)) (I 42) i).2)), (2, .int ((olsS (I (scell xz)) (I 42) i).1)), (0, .ref (g.1 + (ncell xz))), (1, .ref (g.1 + 42))]) dX3_openLessShut_35 (by decide) rfl ?_
    refine v_iload dX3_openLessShut_37 1 rfl ?_
    refine v_iconst (v := 3) dX3_openLessShut_39 (by decide) ?_
    refine v_ishr dX3_openLessShut_40 ?_
    refine v_istore (lv2 := [(7, .int ((I (scell xz) i >>> (4 &&& 31)) >>> (3 &&& 31))), (6, .int (I 42 (lo7 (I (scell xz) i >>> (4 &&& 31))))), (5, .int (I (scell xz) i >>> (4 &&& 31))), (4, .int (nI i)), (3, .int ((olsS (I (scell xz)) (I 42) i).2)), (2, .int ((olsS (I (scell xz)) (I 42) i).1)), (0, .ref (g.1 + (ncell xz))), (1, .ref (g.1 + 42))]) dX3_openLessShut_41 (by decide) rfl ?_
    refine v_aload_n dX3_openLessShut_43 rfl 6 rfl ?_
    refine v_get (v := .ref (g.1 + (scell xz))) fa_X3_7 dX3_openLessShut_44 (kd_nc xz) (by decide) (lt_nc hxz) (by show some (va_rf ((RT na nt ni (ncell xz) 1).map _)) = _; rw [RT_nc]; rfl) ?_
    refine v_iload dX3_openLessShut_47 3 rfl ?_
    refine v_iaload (len := (sln nl xz)) (j := i) dX3_openLessShut_49 (kd_sc xz) (lt_sc hxz) (NT_sc nl xz) (by omega) rfl (by omega) ?_
    refine v_bipush (v := 15) dX3_openLessShut_50 (by decide) ?_
    refine v_iand dX3_openLessShut_52 ?_
    by_cases k3_0 : (I (scell xz) i &&& (15 : Int32)) = 0
    · refine v_is k3_0 ?_
      refine v_tabIn (off := 39) (tgt := 92) dX3_openLessShut_53 (by decide) (by decide) (by decide) (by decide) ?_
      refine v_iload_n dX3_openLessShut_92 rfl 4 rfl ?_
      refine v_iconst (v := 1) dX3_openLessShut_93 (by decide) ?_
      refine v_ixor dX3_openLessShut_94 ?_
      refine v_istore_n (lv2 := [(3, .int ((olsS (I (scell xz)) (I 42) i).2 ^^^ (1 : Int32))), (7, .int ((I (scell xz) i >>> (4 &&& 31)) >>> (3 &&& 31))), (6, .int (I 42 (lo7 (I (scell xz) i >>> (4 &&& 31))))), (5, .int (I (scell xz) i >>> (4 &&& 31))), (4, .int (nI i)), (2, .int ((olsS (I (scell xz)) (I 42) i).1)), (0, .ref (g.1 + (ncell xz))), (1, .ref (g.1 + 42))]) dX3_openLessShut_95 rfl (by decide) rfl ?_
      refine v_goto (tgt := 193) dX3_openLessShut_96 (by decide) ?_
      refine v_inc (v := nI (i + 1)) (lv2 := [(4, .int (nI (i + 1))), (3, .int ((olsS (I (scell xz)) (I 42) i).2 ^^^ (1 : Int32))), (7, .int ((I (scell xz) i >>> (4 &&& 31)) >>> (3 &&& 31))), (6, .int (I 42 (lo7 (I (scell xz) i >>> (4 &&& 31))))), (5, .int (I (scell xz) i >>> (4 &&& 31))), (2, .int ((olsS (I (scell xz)) (I 42) i).1)), (0, .ref (g.1 + (ncell xz))), (1, .ref (g.1 + 42))]) dX3_openLessShut_193 4 rfl (nx_inc rfl) (by decide) rfl ?_
      refine v_goto (tgt := 7) dX3_openLessShut_196 (by decide) ?_
      refine v_sub (lv2 := [(4, .int (nI (i + 1))), (3, .int ((olsS (I (scell xz)) (I 42) i).2 ^^^ (1 : Int32))), (2, .int ((olsS (I (scell xz)) (I 42) i).1)), (0, .ref (g.1 + (ncell xz))), (1, .ref (g.1 + 42))]) [0, 1, 5, 6, 7] rfl ?_
      refine v_lv (lv2 := [(4, .int (nI (i + 1))), (3, .int ((olsS (I (scell xz)) (I 42) (i + 1)).2)), (2, .int ((olsS (I (scell xz)) (I 42) (i + 1)).1)), (0, .ref (g.1 + (ncell xz))), (1, .ref (g.1 + 42))]) (by first | (rw [olsS, stpO, ifc_t k3_0]; done) | (rw [olsS, stpO, ifc_t k3_0]; rfl) | (rw [olsS, stpO, ifc_t k3_0]; unfold opO; rw [ifc_t k3_0]; done) | (rw [olsS, stpO, ifc_t k3_0]; unfold opO; rw [ifc_t k3_0]; rfl)) ?_
      exact ih
    by_cases k3_1 : (I (scell xz) i &&& (15 : Int32)) = 1
    · refine v_is k3_1 ?_
      refine v_tabIn (off := 46) (tgt := 99) dX3_openLessShut_53 (by decide) (by decide) (by decide) (by decide) ?_
      refine v_iload_n dX3_openLessShut_99 rfl 4 rfl ?_
      refine v_iconst (v := 1) dX3_openLessShut_100 (by decide) ?_
      refine v_iushr dX3_openLessShut_101 ?_
      refine v_iload_n dX3_openLessShut_102 rfl 4 rfl ?_
      refine v_bipush (v := (-2)) dX3_openLessShut_103 (by decide) ?_
      refine v_ior dX3_openLessShut_105 ?_
      refine v_iand dX3_openLessShut_106 ?_
      refine v_istore_n (lv2 := [(3, .int ((((olsS (I (scell xz)) (I 42) i).2).toUInt32 >>> (Int32.toUInt32 1 &&& Int32.toUInt32 31)).toInt32 &&& ((olsS (I (scell xz)) (I 42) i).2 ||| ((-2) : Int32)))), (7, .int ((I (scell xz) i >>> (4 &&& 31)) >>> (3 &&& 31))), (6, .int (I 42 (lo7 (I (scell xz) i >>> (4 &&& 31))))), (5, .int (I (scell xz) i >>> (4 &&& 31))), (4, .int (nI i)), (2, .int ((olsS (I (scell xz)) (I 42) i).1)), (0, .ref (g.1 + (ncell xz))), (1, .ref (g.1 + 42))]) dX3_openLessShut_107 rfl (by decide) rfl ?_
      refine v_goto (tgt := 193) dX3_openLessShut_108 (by decide) ?_
      refine v_inc (v := nI (i + 1)) (lv2 := [(4, .int (nI (i + 1))), (3, .int ((((olsS (I (scell xz)) (I 42) i).2).toUInt32 >>> (Int32.toUInt32 1 &&& Int32.toUInt32 31)).toInt32 &&& ((olsS (I (scell xz)) (I 42) i).2 ||| ((-2) : Int32)))), (7, .int ((I (scell xz) i >>> (4 &&& 31)) >>> (3 &&& 31))), (6, .int (I 42 (lo7 (I (scell xz) i >>> (4 &&& 31))))), (5, .int (I (scell xz) i >>> (4 &&& 31))), (2, .int ((olsS (I (scell xz)) (I 42) i).1)), (0, .ref (g.1 + (ncell xz))), (1, .ref (g.1 + 42))]) dX3_openLessShut_193 4 rfl (nx_inc rfl) (by decide) rfl ?_
      refine v_goto (tgt := 7) dX3_openLessShut_196 (by decide) ?_
      refine v_sub (lv2 := [(4, .int (nI (i + 1))), (3, .int ((((olsS (I (scell xz)) (I 42) i).2).toUInt32 >>> (Int32.toUInt32 1 &&& Int32.toUInt32 31)).toInt32 &&& ((olsS (I (scell xz)) (I 42) i).2 ||| ((-2) : Int32)))), (2, .int ((olsS (I (scell xz)) (I 42) i).1)), (0, .ref (g.1 + (ncell xz))), (1, .ref (g.1 + 42))]) [0, 1, 5, 6, 7] rfl ?_
      refine v_lv (lv2 := [(4, .int (nI (i + 1))), (3, .int ((olsS (I (scell xz)) (I 42) (i + 1)).2)), (2, .int ((olsS (I (scell xz)) (I 42) (i + 1)).1)), (0, .ref (g.1 + (ncell xz))), (1, .ref (g.1 + 42))]) (by first | (rw [olsS, stpO, ifc_f k3_0, ifc_t k3_1]; done) | (rw [olsS, stpO, ifc_f k3_0, ifc_t k3_1]; rfl) | (rw [olsS, stpO, ifc_f k3_0, ifc_t k3_1]; unfold opO; rw [ifc_t k3_1]; done) | (rw [olsS, stpO, ifc_f k3_0, ifc_t k3_1]; unfold opO; rw [ifc_t k3_1]; rfl)) ?_
      exact ih
    by_cases k3_2 : (I (scell xz) i &&& (15 : Int32)) = 2
    · refine v_is k3_2 ?_
      refine v_tabIn (off := 58) (tgt := 111) dX3_openLessShut_53 (by decide) (by decide) (by decide) (by decide) ?_
      refine v_iload_n dX3_openLessShut_111 rfl 4 rfl ?_
      refine v_iconst (v := 1) dX3_openLessShut_112 (by decide) ?_
      refine v_iushr dX3_openLessShut_113 ?_
      refine v_iload_n dX3_openLessShut_114 rfl 4 rfl ?_
      refine v_iconst (v := 1) dX3_openLessShut_115 (by decide) ?_
      refine v_iand dX3_openLessShut_116 ?_
      refine v_ior dX3_openLessShut_117 ?_
      refine v_istore_n (lv2 := [(3, .int ((((olsS (I (scell xz)) (I 42) i).2).toUInt32 >>> (Int32.toUInt32 1 &&& Int32.toUInt32 31)).toInt32 ||| ((olsS (I (scell xz)) (I 42) i).2 &&& (1 : Int32)))), (7, .int ((I (scell xz) i >>> (4 &&& 31)) >>> (3 &&& 31))), (6, .int (I 42 (lo7 (I (scell xz) i >>> (4 &&& 31))))), (5, .int (I (scell xz) i >>> (4 &&& 31))), (4, .int (nI i)), (2, .int ((olsS (I (scell xz)) (I 42) i).1)), (0, .ref (g.1 + (ncell xz))), (1, .ref (g.1 + 42))]) dX3_openLessShut_118 rfl (by decide) rfl ?_
      refine v_goto (tgt := 193) dX3_openLessShut_119 (by decide) ?_
      refine v_inc (v := nI (i + 1)) (lv2 := [(4, .int (nI (i + 1))), (3, .int ((((olsS (I (scell xz)) (I 42) i).2).toUInt32 >>> (Int32.toUInt32 1 &&& Int32.toUInt32 31)).toInt32 ||| ((olsS (I (scell xz)) (I 42) i).2 &&& (1 : Int32)))), (7, .int ((I (scell xz) i >>> (4 &&& 31)) >>> (3 &&& 31))), (6, .int (I 42 (lo7 (I (scell xz) i >>> (4 &&& 31))))), (5, .int (I (scell xz) i >>> (4 &&& 31))), (2, .int ((olsS (I (scell xz)) (I 42) i).1)), (0, .ref (g.1 + (ncell xz))), (1, .ref (g.1 + 42))]) dX3_openLessShut_193 4 rfl (nx_inc rfl) (by decide) rfl ?_
      refine v_goto (tgt := 7) dX3_openLessShut_196 (by decide) ?_
      refine v_sub (lv2 := [(4, .int (nI (i + 1))), (3, .int ((((olsS (I (scell xz)) (I 42) i).2).toUInt32 >>> (Int32.toUInt32 1 &&& Int32.toUInt32 31)).toInt32 ||| ((olsS (I (scell xz)) (I 42) i).2 &&& (1 : Int32)))), (2, .int ((olsS (I (scell xz)) (I 42) i).1)), (0, .ref (g.1 + (ncell xz))), (1, .ref (g.1 + 42))]) [0, 1, 5, 6, 7] rfl ?_
      refine v_lv (lv2 := [(4, .int (nI (i + 1))), (3, .int ((olsS (I (scell xz)) (I 42) (i + 1)).2)), (2, .int ((olsS (I (scell xz)) (I 42) (i + 1)).1)), (0, .ref (g.1 + (ncell xz))), (1, .ref (g.1 + 42))]) (by first | (rw [olsS, stpO, ifc_f k3_0, ifc_f k3_1, ifc_t k3_2]; done) | (rw [olsS, stpO, ifc_f k3_0, ifc_f k3_1, ifc_t k3_2]; rfl) | (rw [olsS, stpO, ifc_f k3_0, ifc_f k3_1, ifc_t k3_2]; unfold opO; rw [ifc_t k3_2]; done) | (rw [olsS, stpO, ifc_f k3_0, ifc_f k3_1, ifc_t k3_2]; unfold opO; rw [ifc_t k3_2]; rfl)) ?_
      exact ih
    by_cases k3_3 : (I (scell xz) i &&& (15 : Int32)) = 3
    · refine v_is k3_3 ?_
      refine v_tabIn (off := 69) (tgt := 122) dX3_openLessShut_53 (by decide) (by decide) (by decide) (by decide) ?_
      refine v_iload_n dX3_openLessShut_122 rfl 5 rfl ?_
      refine v_iload_n dX3_openLessShut_123 rfl 4 rfl ?_
      refine v_iconst (v := 1) dX3_openLessShut_124 (by decide) ?_
      refine v_iand dX3_openLessShut_125 ?_
      refine v_iload dX3_openLessShut_126 2 rfl ?_
      refine v_imul dX3_openLessShut_128 ?_
      refine v_iadd dX3_openLessShut_129 ?_
      refine v_istore_n (lv2 := [(2, .int ((olsS (I (scell xz)) (I 42) i).1 + (((olsS (I (scell xz)) (I 42) i).2 &&& (1 : Int32)) * (I (scell xz) i >>> (4 &&& 31))))), (7, .int ((I (scell xz) i >>> (4 &&& 31)) >>> (3 &&& 31))), (6, .int (I 42 (lo7 (I (scell xz) i >>> (4 &&& 31))))), (5, .int (I (scell xz) i >>> (4 &&& 31))), (4, .int (nI i)), (3, .int ((olsS (I (scell xz)) (I 42) i).2)), (0, .ref (g.1 + (ncell xz))), (1, .ref (g.1 + 42))]) dX3_openLessShut_130 rfl (by decide) rfl ?_
      refine v_iconst (v := 0) dX3_openLessShut_131 (by decide) ?_
      refine v_istore_n (lv2 := [(3, .int 0), (2, .int ((olsS (I (scell xz)) (I 42) i).1 + (((olsS (I (scell xz)) (I 42) i).2 &&& (1 : Int32)) * (I (scell xz) i >>> (4 &&& 31))))), (7, .int ((I (scell xz) i >>> (4 &&& 31)) >>> (3 &&& 31))), (6, .int (I 42 (lo7 (I (scell xz) i >>> (4 &&& 31))))), (5, .int (I (scell xz) i >>> (4 &&& 31))), (4, .int (nI i)), (0, .ref (g.1 + (ncell xz))), (1, .ref (g.1 + 42))]) dX3_openLessShut_132 rfl (by decide) rfl ?_
      refine v_goto (tgt := 193) dX3_openLessShut_133 (by decide) ?_
      refine v_inc (v := nI (i + 1)) (lv2 := [(4, .int (nI (i + 1))), (3, .int 0), (2, .int ((olsS (I (scell xz)) (I 42) i).1 + (((olsS (I (scell xz)) (I 42) i).2 &&& (1 : Int32)) * (I (scell xz) i >>> (4 &&& 31))))), (7, .int ((I (scell xz) i >>> (4 &&& 31)) >>> (3 &&& 31))), (6, .int (I 42 (lo7 (I (scell xz) i >>> (4 &&& 31))))), (5, .int (I (scell xz) i >>> (4 &&& 31))), (0, .ref (g.1 + (ncell xz))), (1, .ref (g.1 + 42))]) dX3_openLessShut_193 5 rfl (nx_inc rfl) (by decide) rfl ?_
      refine v_goto (tgt := 7) dX3_openLessShut_196 (by decide) ?_
      refine v_sub (lv2 := [(4, .int (nI (i + 1))), (3, .int 0), (2, .int ((olsS (I (scell xz)) (I 42) i).1 + (((olsS (I (scell xz)) (I 42) i).2 &&& (1 : Int32)) * (I (scell xz) i >>> (4 &&& 31))))), (0, .ref (g.1 + (ncell xz))), (1, .ref (g.1 + 42))]) [0, 1, 2, 6, 7] rfl ?_
      refine v_lv (lv2 := [(4, .int (nI (i + 1))), (3, .int ((olsS (I (scell xz)) (I 42) (i + 1)).2)), (2, .int ((olsS (I (scell xz)) (I 42) (i + 1)).1)), (0, .ref (g.1 + (ncell xz))), (1, .ref (g.1 + 42))]) (by first | (rw [olsS, stpO, ifc_f k3_0, ifc_f k3_1, ifc_f k3_2, ifc_t k3_3]; done) | (rw [olsS, stpO, ifc_f k3_0, ifc_f k3_1, ifc_f k3_2, ifc_t k3_3]; rfl) | (rw [olsS, stpO, ifc_f k3_0, ifc_f k3_1, ifc_f k3_2, ifc_t k3_3]; unfold opO; rw [ifc_t k3_3]; done) | (rw [olsS, stpO, ifc_f k3_0, ifc_f k3_1, ifc_f k3_2, ifc_t k3_3]; unfold opO; rw [ifc_t k3_3]; rfl)) ?_
      exact ih
    by_cases k3_4 : (I (scell xz) i &&& (15 : Int32)) = 4
    · refine v_is k3_4 ?_
      refine v_tabIn (off := 83) (tgt := 136) dX3_openLessShut_53 (by decide) (by decide) (by decide) (by decide) ?_
      refine v_iload_n dX3_openLessShut_136 rfl 4 rfl ?_
      refine v_iconst (v := 1) dX3_openLessShut_137 (by decide) ?_
      refine v_ishl dX3_openLessShut_138 ?_
      refine v_iload dX3_openLessShut_139 1 rfl ?_
      refine v_iload dX3_openLessShut_141 0 rfl ?_
      refine v_icmp_ge (tgt := 150) dX3_openLessShut_143 (by decide) (fun h4 => ?_) (fun h4 => ?_)
      · -- I 42 (lo7 (I (scell xz) i >>> (4 &&& 31))) ge ((I (scell xz) i >>> (4 &&& 31)) >>> (3 &&& 31))
        have h4n := Int32.not_lt.mpr h4
        refine v_iconst (v := 0) dX3_openLessShut_150 (by decide) ?_
        refine v_ior dX3_openLessShut_151 ?_
        refine v_istore_n (lv2 := [(3, .int (((olsS (I (scell xz)) (I 42) i).2 <<< (1 &&& 31)) ||| (0 : Int32))), (7, .int ((I (scell xz) i >>> (4 &&& 31)) >>> (3 &&& 31))), (6, .int (I 42 (lo7 (I (scell xz) i >>> (4 &&& 31))))), (5, .int (I (scell xz) i >>> (4 &&& 31))), (4, .int (nI i)), (2, .int ((olsS (I (scell xz)) (I 42) i).1)), (0, .ref (g.1 + (ncell xz))), (1, .ref (g.1 + 42))]) dX3_openLessShut_152 rfl (by decide) rfl ?_
        refine v_goto (tgt := 193) dX3_openLessShut_153 (by decide) ?_
        refine v_inc (v := nI (i + 1)) (lv2 := [(4, .int (nI (i + 1))), (3, .int (((olsS (I (scell xz)) (I 42) i).2 <<< (1 &&& 31)) ||| (0 : Int32))), (7, .int ((I (scell xz) i >>> (4 &&& 31)) >>> (3 &&& 31))), (6, .int (I 42 (lo7 (I (scell xz) i >>> (4 &&& 31))))), (5, .int (I (scell xz) i >>> (4 &&& 31))), (2, .int ((olsS (I (scell xz)) (I 42) i).1)), (0, .ref (g.1 + (ncell xz))), (1, .ref (g.1 + 42))]) dX3_openLessShut_193 4 rfl (nx_inc rfl) (by decide) rfl ?_
        refine v_goto (tgt := 7) dX3_openLessShut_196 (by decide) ?_
        refine v_sub (lv2 := [(4, .int (nI (i + 1))), (3, .int (((olsS (I (scell xz)) (I 42) i).2 <<< (1 &&& 31)) ||| (0 : Int32))), (2, .int ((olsS (I (scell xz)) (I 42) i).1)), (0, .ref (g.1 + (ncell xz))), (1, .ref (g.1 + 42))]) [0, 1, 5, 6, 7] rfl ?_
        refine v_lv (lv2 := [(4, .int (nI (i + 1))), (3, .int ((olsS (I (scell xz)) (I 42) (i + 1)).2)), (2, .int ((olsS (I (scell xz)) (I 42) (i + 1)).1)), (0, .ref (g.1 + (ncell xz))), (1, .ref (g.1 + 42))]) (by first | (rw [olsS, stpO, ifc_f k3_0, ifc_f k3_1, ifc_f k3_2, ifc_f k3_3, ifc_t k3_4]; done) | (rw [olsS, stpO, ifc_f k3_0, ifc_f k3_1, ifc_f k3_2, ifc_f k3_3, ifc_t k3_4]; rfl) | (rw [olsS, stpO, ifc_f k3_0, ifc_f k3_1, ifc_f k3_2, ifc_f k3_3, ifc_t k3_4]; unfold opO; rw [ifc_f h4n]; done) | (rw [olsS, stpO, ifc_f k3_0, ifc_f k3_1, ifc_f k3_2, ifc_f k3_3, ifc_t k3_4]; unfold opO; rw [ifc_f h4n]; rfl)) ?_
        exact ih
      · -- I 42 (lo7 (I (scell xz) i >>> (4 &&& 31))) lt ((I (scell xz) i >>> (4 &&& 31)) >>> (3 &&& 31))
        have h4n := Int32.not_le.mp h4
        refine v_iconst (v := 1) dX3_openLessShut_146 (by decide) ?_
        refine v_goto (tgt := 151) dX3_openLessShut_147 (by decide) ?_
        refine v_ior dX3_openLessShut_151 ?_
        refine v_istore_n (lv2 := [(3, .int (((olsS (I (scell xz)) (I 42) i).2 <<< (1 &&& 31)) ||| (1 : Int32))), (7, .int ((I (scell xz) i >>> (4 &&& 31)) >>> (3 &&& 31))), (6, .int (I 42 (lo7 (I (scell xz) i >>> (4 &&& 31))))), (5, .int (I (scell xz) i >>> (4 &&& 31))), (4, .int (nI i)), (2, .int ((olsS (I (scell xz)) (I 42) i).1)), (0, .ref (g.1 + (ncell xz))), (1, .ref (g.1 + 42))]) dX3_openLessShut_152 rfl (by decide) rfl ?_
        refine v_goto (tgt := 193) dX3_openLessShut_153 (by decide) ?_
        refine v_inc (v := nI (i + 1)) (lv2 := [(4, .int (nI (i + 1))), (3, .int (((olsS (I (scell xz)) (I 42) i).2 <<< (1 &&& 31)) ||| (1 : Int32))), (7, .int ((I (scell xz) i >>> (4 &&& 31)) >>> (3 &&& 31))), (6, .int (I 42 (lo7 (I (scell xz) i >>> (4 &&& 31))))), (5, .int (I (scell xz) i >>> (4 &&& 31))), (2, .int ((olsS (I (scell xz)) (I 42) i).1)), (0, .ref (g.1 + (ncell xz))), (1, .ref (g.1 + 42))]) dX3_openLessShut_193 4 rfl (nx_inc rfl) (by decide) rfl ?_
        refine v_goto (tgt := 7) dX3_openLessShut_196 (by decide) ?_
        refine v_sub (lv2 := [(4, .int (nI (i + 1))), (3, .int (((olsS (I (scell xz)) (I 42) i).2 <<< (1 &&& 31)) ||| (1 : Int32))), (2, .int ((olsS (I (scell xz)) (I 42) i).1)), (0, .ref (g.1 + (ncell xz))), (1, .ref (g.1 + 42))]) [0, 1, 5, 6, 7] rfl ?_
        refine v_lv (lv2 := [(4, .int (nI (i + 1))), (3, .int ((olsS (I (scell xz)) (I 42) (i + 1)).2)), (2, .int ((olsS (I (scell xz)) (I 42) (i + 1)).1)), (0, .ref (g.1 + (ncell xz))), (1, .ref (g.1 + 42))]) (by first | (rw [olsS, stpO, ifc_f k3_0, ifc_f k3_1, ifc_f k3_2, ifc_f k3_3, ifc_t k3_4]; done) | (rw [olsS, stpO, ifc_f k3_0, ifc_f k3_1, ifc_f k3_2, ifc_f k3_3, ifc_t k3_4]; rfl) | (rw [olsS, stpO, ifc_f k3_0, ifc_f k3_1, ifc_f k3_2, ifc_f k3_3, ifc_t k3_4]; unfold opO; rw [ifc_t h4n]; done) | (rw [olsS, stpO, ifc_f k3_0, ifc_f k3_1, ifc_f k3_2, ifc_f k3_3, ifc_t k3_4]; unfold opO; rw [ifc_t h4n]; rfl)) ?_
        exact ih
    by_cases k3_5 : (I (scell xz) i &&& (15 : Int32)) = 5
    · refine v_is k3_5 ?_
      refine v_tabIn (off := 103) (tgt := 156) dX3_openLessShut_53 (by decide) (by decide) (by decide) (by decide) ?_
      refine v_iload_n dX3_openLessShut_156 rfl 4 rfl ?_
      refine v_iconst (v := 1) dX3_openLessShut_157 (by decide) ?_
      refine v_ishl dX3_openLessShut_158 ?_
      refine v_iload dX3_openLessShut_159 1 rfl ?_
      refine v_iload dX3_openLessShut_161 0 rfl ?_
      refine v_icmp_ne (tgt := 170) dX3_openLessShut_163 (by decide) (fun h5 => ?_) (fun h5 => ?_)
      · -- I 42 (lo7 (I (scell xz) i >>> (4 &&& 31))) ne ((I (scell xz) i >>> (4 &&& 31)) >>> (3 &&& 31))
        refine v_iconst (v := 0) dX3_openLessShut_170 (by decide) ?_
        refine v_ior dX3_openLessShut_171 ?_
        refine v_istore_n (lv2 := [(3, .int (((olsS (I (scell xz)) (I 42) i).2 <<< (1 &&& 31)) ||| (0 : Int32))), (7, .int ((I (scell xz) i >>> (4 &&& 31)) >>> (3 &&& 31))), (6, .int (I 42 (lo7 (I (scell xz) i >>> (4 &&& 31))))), (5, .int (I (scell xz) i >>> (4 &&& 31))), (4, .int (nI i)), (2, .int ((olsS (I (scell xz)) (I 42) i).1)), (0, .ref (g.1 + (ncell xz))), (1, .ref (g.1 + 42))]) dX3_openLessShut_172 rfl (by decide) rfl ?_
        refine v_goto (tgt := 193) dX3_openLessShut_173 (by decide) ?_
        refine v_inc (v := nI (i + 1)) (lv2 := [(4, .int (nI (i + 1))), (3, .int (((olsS (I (scell xz)) (I 42) i).2 <<< (1 &&& 31)) ||| (0 : Int32))), (7, .int ((I (scell xz) i >>> (4 &&& 31)) >>> (3 &&& 31))), (6, .int (I 42 (lo7 (I (scell xz) i >>> (4 &&& 31))))), (5, .int (I (scell xz) i >>> (4 &&& 31))), (2, .int ((olsS (I (scell xz)) (I 42) i).1)), (0, .ref (g.1 + (ncell xz))), (1, .ref (g.1 + 42))]) dX3_openLessShut_193 4 rfl (nx_inc rfl) (by decide) rfl ?_
        refine v_goto (tgt := 7) dX3_openLessShut_196 (by decide) ?_
        refine v_sub (lv2 := [(4, .int (nI (i + 1))), (3, .int (((olsS (I (scell xz)) (I 42) i).2 <<< (1 &&& 31)) ||| (0 : Int32))), (2, .int ((olsS (I (scell xz)) (I 42) i).1)), (0, .ref (g.1 + (ncell xz))), (1, .ref (g.1 + 42))]) [0, 1, 5, 6, 7] rfl ?_
        refine v_lv (lv2 := [(4, .int (nI (i + 1))), (3, .int ((olsS (I (scell xz)) (I 42) (i + 1)).2)), (2, .int ((olsS (I (scell xz)) (I 42) (i + 1)).1)), (0, .ref (g.1 + (ncell xz))), (1, .ref (g.1 + 42))]) (by first | (rw [olsS, stpO, ifc_f k3_0, ifc_f k3_1, ifc_f k3_2, ifc_f k3_3, ifc_f k3_4, ifc_t k3_5]; done) | (rw [olsS, stpO, ifc_f k3_0, ifc_f k3_1, ifc_f k3_2, ifc_f k3_3, ifc_f k3_4, ifc_t k3_5]; rfl) | (rw [olsS, stpO, ifc_f k3_0, ifc_f k3_1, ifc_f k3_2, ifc_f k3_3, ifc_f k3_4, ifc_t k3_5]; unfold opO; rw [ifc_f h5]; done) | (rw [olsS, stpO, ifc_f k3_0, ifc_f k3_1, ifc_f k3_2, ifc_f k3_3, ifc_f k3_4, ifc_t k3_5]; unfold opO; rw [ifc_f h5]; rfl)) ?_
        exact ih
      · -- I 42 (lo7 (I (scell xz) i >>> (4 &&& 31))) eq ((I (scell xz) i >>> (4 &&& 31)) >>> (3 &&& 31))
        refine v_iconst (v := 1) dX3_openLessShut_166 (by decide) ?_
        refine v_goto (tgt := 171) dX3_openLessShut_167 (by decide) ?_
        refine v_ior dX3_openLessShut_171 ?_
        refine v_istore_n (lv2 := [(3, .int (((olsS (I (scell xz)) (I 42) i).2 <<< (1 &&& 31)) ||| (1 : Int32))), (7, .int ((I (scell xz) i >>> (4 &&& 31)) >>> (3 &&& 31))), (6, .int (I 42 (lo7 (I (scell xz) i >>> (4 &&& 31))))), (5, .int (I (scell xz) i >>> (4 &&& 31))), (4, .int (nI i)), (2, .int ((olsS (I (scell xz)) (I 42) i).1)), (0, .ref (g.1 + (ncell xz))), (1, .ref (g.1 + 42))]) dX3_openLessShut_172 rfl (by decide) rfl ?_
        refine v_goto (tgt := 193) dX3_openLessShut_173 (by decide) ?_
        refine v_inc (v := nI (i + 1)) (lv2 := [(4, .int (nI (i + 1))), (3, .int (((olsS (I (scell xz)) (I 42) i).2 <<< (1 &&& 31)) ||| (1 : Int32))), (7, .int ((I (scell xz) i >>> (4 &&& 31)) >>> (3 &&& 31))), (6, .int (I 42 (lo7 (I (scell xz) i >>> (4 &&& 31))))), (5, .int (I (scell xz) i >>> (4 &&& 31))), (2, .int ((olsS (I (scell xz)) (I 42) i).1)), (0, .ref (g.1 + (ncell xz))), (1, .ref (g.1 + 42))]) dX3_openLessShut_193 4 rfl (nx_inc rfl) (by decide) rfl ?_
        refine v_goto (tgt := 7) dX3_openLessShut_196 (by decide) ?_
        refine v_sub (lv2 := [(4, .int (nI (i + 1))), (3, .int (((olsS (I (scell xz)) (I 42) i).2 <<< (1 &&& 31)) ||| (1 : Int32))), (2, .int ((olsS (I (scell xz)) (I 42) i).1)), (0, .ref (g.1 + (ncell xz))), (1, .ref (g.1 + 42))]) [0, 1, 5, 6, 7] rfl ?_
        refine v_lv (lv2 := [(4, .int (nI (i + 1))), (3, .int ((olsS (I (scell xz)) (I 42) (i + 1)).2)), (2, .int ((olsS (I (scell xz)) (I 42) (i + 1)).1)), (0, .ref (g.1 + (ncell xz))), (1, .ref (g.1 + 42))]) (by first | (rw [olsS, stpO, ifc_f k3_0, ifc_f k3_1, ifc_f k3_2, ifc_f k3_3, ifc_f k3_4, ifc_t k3_5]; done) | (rw [olsS, stpO, ifc_f k3_0, ifc_f k3_1, ifc_f k3_2, ifc_f k3_3, ifc_f k3_4, ifc_t k3_5]; rfl) | (rw [olsS, stpO, ifc_f k3_0, ifc_f k3_1, ifc_f k3_2, ifc_f k3_3, ifc_f k3_4, ifc_t k3_5]; unfold opO; rw [ifc_t h5]; done) | (rw [olsS, stpO, ifc_f k3_0, ifc_f k3_1, ifc_f k3_2, ifc_f k3_3, ifc_f k3_4, ifc_t k3_5]; unfold opO; rw [ifc_t h5]; rfl)) ?_
        exact ih
    have t6 : (I (scell xz) i &&& (15 : Int32)).toInt < 0 ∨ 5 < (I (scell xz) i &&& (15 : Int32)).toInt := by
      rcases sw_out (I (scell xz) i &&& (15 : Int32)) (0) (5) with h | h | ⟨ha, hb⟩
      · exact Or.inl h
      · exact Or.inr h
      · exfalso
        have hz : ∀ z : Int, 0 ≤ z → z ≤ 5 → z = 0 ∨ z = 1 ∨ z = 2 ∨ z = 3 ∨ z = 4 ∨ z = 5 := by omega
        rcases hz _ ha hb with e | e | e | e | e | e
        · exact absurd (sw_eq (k := 0) e (by decide)) k3_0
        · exact absurd (sw_eq (k := 1) e (by decide)) k3_1
        · exact absurd (sw_eq (k := 2) e (by decide)) k3_2
        · exact absurd (sw_eq (k := 3) e (by decide)) k3_3
        · exact absurd (sw_eq (k := 4) e (by decide)) k3_4
        · exact absurd (sw_eq (k := 5) e (by decide)) k3_5
    refine v_tabOut (tgt := 176) dX3_openLessShut_53 t6 (by decide) ?_
    refine v_iload_n dX3_openLessShut_176 rfl 4 rfl ?_
    refine v_iconst (v := 1) dX3_openLessShut_177 (by decide) ?_
    refine v_ishl dX3_openLessShut_178 ?_
    refine v_iload dX3_openLessShut_179 1 rfl ?_
    refine v_iload dX3_openLessShut_181 0 rfl ?_
    refine v_icmp_le (tgt := 190) dX3_openLessShut_183 (by decide) (fun h7 => ?_) (fun h7 => ?_)
    · -- I 42 (lo7 (I (scell xz) i >>> (4 &&& 31))) le ((I (scell xz) i >>> (4 &&& 31)) >>> (3 &&& 31))
      have h7n := Int32.not_lt.mpr h7
      refine v_iconst (v := 0) dX3_openLessShut_190 (by decide) ?_
      refine v_ior dX3_openLessShut_191 ?_
      refine v_istore_n (lv2 := [(3, .int (((olsS (I (scell xz)) (I 42) i).2 <<< (1 &&& 31)) ||| (0 : Int32))), (7, .int ((I (scell xz) i >>> (4 &&& 31)) >>> (3 &&& 31))), (6, .int (I 42 (lo7 (I (scell xz) i >>> (4 &&& 31))))), (5, .int (I (scell xz) i >>> (4 &&& 31))), (4, .int (nI i)), (2, .int ((olsS (I (scell xz)) (I 42) i).1)), (0, .ref (g.1 + (ncell xz))), (1, .ref (g.1 + 42))]) dX3_openLessShut_192 rfl (by decide) rfl ?_
      refine v_inc (v := nI (i + 1)) (lv2 := [(4, .int (nI (i + 1))), (3, .int (((olsS (I (scell xz)) (I 42) i).2 <<< (1 &&& 31)) ||| (0 : Int32))), (7, .int ((I (scell xz) i >>> (4 &&& 31)) >>> (3 &&& 31))), (6, .int (I 42 (lo7 (I (scell xz) i >>> (4 &&& 31))))), (5, .int (I (scell xz) i >>> (4 &&& 31))), (2, .int ((olsS (I (scell xz)) (I 42) i).1)), (0, .ref (g.1 + (ncell xz))), (1, .ref (g.1 + 42))]) dX3_openLessShut_193 4 rfl (nx_inc rfl) (by decide) rfl ?_
      refine v_goto (tgt := 7) dX3_openLessShut_196 (by decide) ?_
      refine v_sub (lv2 := [(4, .int (nI (i + 1))), (3, .int (((olsS (I (scell xz)) (I 42) i).2 <<< (1 &&& 31)) ||| (0 : Int32))), (2, .int ((olsS (I (scell xz)) (I 42) i).1)), (0, .ref (g.1 + (ncell xz))), (1, .ref (g.1 + 42))]) [0, 1, 5, 6, 7] rfl ?_
      refine v_lv (lv2 := [(4, .int (nI (i + 1))), (3, .int ((olsS (I (scell xz)) (I 42) (i + 1)).2)), (2, .int ((olsS (I (scell xz)) (I 42) (i + 1)).1)), (0, .ref (g.1 + (ncell xz))), (1, .ref (g.1 + 42))]) (by first | (rw [olsS, stpO, ifc_f k3_0, ifc_f k3_1, ifc_f k3_2, ifc_f k3_3, ifc_f k3_4, ifc_f k3_5]; done) | (rw [olsS, stpO, ifc_f k3_0, ifc_f k3_1, ifc_f k3_2, ifc_f k3_3, ifc_f k3_4, ifc_f k3_5]; rfl) | (rw [olsS, stpO, ifc_f k3_0, ifc_f k3_1, ifc_f k3_2, ifc_f k3_3, ifc_f k3_4, ifc_f k3_5]; unfold opO; rw [ifc_f h7n]; done) | (rw [olsS, stpO, ifc_f k3_0, ifc_f k3_1, ifc_f k3_2, ifc_f k3_3, ifc_f k3_4, ifc_f k3_5]; unfold opO; rw [ifc_f h7n]; rfl)) ?_
      exact ih
    · -- I 42 (lo7 (I (scell xz) i >>> (4 &&& 31))) gt ((I (scell xz) i >>> (4 &&& 31)) >>> (3 &&& 31))
      have h7n := Int32.not_le.mp h7
      refine v_iconst (v := 1) dX3_openLessShut_186 (by decide) ?_
      refine v_goto (tgt := 191) dX3_openLessShut_187 (by decide) ?_
      refine v_ior dX3_openLessShut_191 ?_
      refine v_istore_n (lv2 := [(3, .int (((olsS (I (scell xz)) (I 42) i).2 <<< (1 &&& 31)) ||| (1 : Int32))), (7, .int ((I (scell xz) i >>> (4 &&& 31)) >>> (3 &&& 31))), (6, .int (I 42 (lo7 (I (scell xz) i >>> (4 &&& 31))))), (5, .int (I (scell xz) i >>> (4 &&& 31))), (4, .int (nI i)), (2, .int ((olsS (I (scell xz)) (I 42) i).1)), (0, .ref (g.1 + (ncell xz))), (1, .ref (g.1 + 42))]) dX3_openLessShut_192 rfl (by decide) rfl ?_
      refine v_inc (v := nI (i + 1)) (lv2 := [(4, .int (nI (i + 1))), (3, .int (((olsS (I (scell xz)) (I 42) i).2 <<< (1 &&& 31)) ||| (1 : Int32))), (7, .int ((I (scell xz) i >>> (4 &&& 31)) >>> (3 &&& 31))), (6, .int (I 42 (lo7 (I (scell xz) i >>> (4 &&& 31))))), (5, .int (I (scell xz) i >>> (4 &&& 31))), (2, .int ((olsS (I (scell xz)) (I 42) i).1)), (0, .ref (g.1 + (ncell xz))), (1, .ref (g.1 + 42))]) dX3_openLessShut_193 4 rfl (nx_inc rfl) (by decide) rfl ?_
      refine v_goto (tgt := 7) dX3_openLessShut_196 (by decide) ?_
      refine v_sub (lv2 := [(4, .int (nI (i + 1))), (3, .int (((olsS (I (scell xz)) (I 42) i).2 <<< (1 &&& 31)) ||| (1 : Int32))), (2, .int ((olsS (I (scell xz)) (I 42) i).1)), (0, .ref (g.1 + (ncell xz))), (1, .ref (g.1 + 42))]) [0, 1, 5, 6, 7] rfl ?_
      refine v_lv (lv2 := [(4, .int (nI (i + 1))), (3, .int ((olsS (I (scell xz)) (I 42) (i + 1)).2)), (2, .int ((olsS (I (scell xz)) (I 42) (i + 1)).1)), (0, .ref (g.1 + (ncell xz))), (1, .ref (g.1 + 42))]) (by first | (rw [olsS, stpO, ifc_f k3_0, ifc_f k3_1, ifc_f k3_2, ifc_f k3_3, ifc_f k3_4, ifc_f k3_5]; done) | (rw [olsS, stpO, ifc_f k3_0, ifc_f k3_1, ifc_f k3_2, ifc_f k3_3, ifc_f k3_4, ifc_f k3_5]; rfl) | (rw [olsS, stpO, ifc_f k3_0, ifc_f k3_1, ifc_f k3_2, ifc_f k3_3, ifc_f k3_4, ifc_f k3_5]; unfold opO; rw [ifc_t h7n]; done) | (rw [olsS, stpO, ifc_f k3_0, ifc_f k3_1, ifc_f k3_2, ifc_f k3_3, ifc_f k3_4, ifc_f k3_5]; unfold opO; rw [ifc_t h7n]; rfl)) ?_
      exact ih
