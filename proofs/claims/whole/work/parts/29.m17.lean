theorem okS_up {I : Ty} {q c : Nat} (h : okS (mget I)) (hc : c < 16) : okS (mget (wr I 69 q (nI c))) := fun p hp => by
  by_cases e : p = q
  · subst e; exact ⟨c, hc, up_at _ _ _⟩
  · obtain ⟨x, hx, he⟩ := h p hp
    exact ⟨x, hx, (up_off _ _ e).trans he⟩
noncomputable def fromF (I : Ty) (pp sn p : Nat) : Nat → Int32
  | 0 => 0
  | c + 1 => fromF I pp sn p c ||| (ifc (seenP (wr I 69 p (nI c)) pp sn) ((1 : Int32) <<< (nI c &&& 31)) 0)
theorem wr_wr (I : Ty) (a k : Nat) (x y : Int32) : wr (wr I a k x) a k y = wr I a k y := by
  show va_up (va_up I a _) a (va_up (va_up I a (va_up (I a) k x) a) k y) = _
  rw [up_at, up_up, up_up]
theorem wr_self (I : Ty) (a k : Nat) : wr I a k (I a k) = I := by
  show va_up I a (va_up (I a) k (I a k)) = I
  rw [up_self, up_self]
theorem sck_wr69 (I kp : Ty) (kh : Int32) (k : Nat) (x y : Int32) : wr (sck (wr I 69 k x) kp kh) 69 k y = sck (wr I 69 k y) kp kh := by
  show va_up (sck (wr I 69 k x) kp kh) 69 (va_up (va_up (I 69) k x) k y) = _
  rw [up_up, sck_69]
  show sck (va_up (va_up I 69 _) 69 _) kp kh = _
  rw [up_up]
theorem sck_wr68 (I kp : Ty) (kh : Int32) (k : Nat) (x y : Int32) : wr (sck (wr I 68 k x) kp kh) 68 k y = sck (wr I 68 k y) kp kh := by
  show va_up (sck (wr I 68 k x) kp kh) 68 (va_up (va_up (I 68) k x) k y) = _
  rw [up_up, sck_68]
  show sck (va_up (va_up I 68 _) 68 _) kp kh = _
  rw [up_up]
set_option maxRecDepth 100000 in
set_option maxHeartbeats 2000000 in
theorem c_X9_fromWhere {g : Gl} {I : Ty} {L : TL} {na nt ni m : Nat} {nl : Nat → Nat} (p : Nat) (hp : p < 6) (pp : Nat) (hpp : pp ≤ 6) (hpe : I 65 0 = nI pp) (hN : mOK I) (hS : okS (mget I)) (hG : okG (I 70)) (hM : I 65 29 = 9999) (sn : Nat) (hsn : sn ≤ 5) (hse : I 65 35 = nI sn) (hsw : ∀ k, k < sn → ∃ x, x < 6 ∧ I 89 k = nI x) (hst : ∀ k, k < sn → ∃ x, x ≤ 12 ∧ I 90 k = nI x) : Ct g yX9_fromWhere cX9_fromWhere 5 (some .int) 8 0 0 [.ref (g.1 + 65), .int (nI p)] I L (RT na nt ni) (NT nl) (NB + m) (Pk (some (.int (fromF I pp sn p 16))) (I) L (RT na nt ni) (NT nl) (NB + m)) := by
  refine ct_of (by decide +kernel) (Nat.le_of_ble_eq_true rfl) (fun F hnm hr => ?_)
  clear hnm
  show V g F cX9_fromWhere RX9 5 8 0 [(0, .ref (g.1 + 65)), (1, .int (nI p))] [] I L (RT na nt ni) (NT nl) (NB + m) 0 0
  refine v_aload_n dX9_fromWhere_0 rfl 0 rfl ?_
  refine v_get (v := .ref (g.1 + 69)) fa_X9_26 dX9_fromWhere_1 rfl (by decide) (ltn rfl) rfl ?_
  refine v_iload_n dX9_fromWhere_4 rfl 1 rfl ?_
  refine v_iaload (len := 6) (j := p) dX9_fromWhere_5 rfl (ltn rfl) rfl (by decide) rfl (by omega) ?_
  refine v_istore_n (lv2 := [(2, .int (I 69 p)), (0, .ref (g.1 + 65)), (1, .int (nI p))]) dX9_fromWhere_6 rfl (by decide) rfl ?_
  refine v_iconst (v := 0) dX9_fromWhere_7 (by decide) ?_
  refine v_istore_n (lv2 := [(3, .int 0), (2, .int (I 69 p)), (0, .ref (g.1 + 65)), (1, .int (nI p))]) dX9_fromWhere_8 rfl (by decide) rfl ?_
  refine v_iconst (v := 0) dX9_fromWhere_9 (by decide) ?_
  refine v_istore (lv2 := [(4, .int 0), (3, .int 0), (2, .int (I 69 p)), (0, .ref (g.1 + 65)), (1, .int (nI p))]) dX9_fromWhere_10 (by decide) rfl ?_
  refine v_lv (lv2 := [(4, .int (nI 0)), (3, .int (fromF I pp sn p 0)), (2, .int (I 69 p)), (0, .ref (g.1 + 65)), (1, .int (nI p))]) (by rfl) ?_
  refine v_I (I2 := (sck (wr I 69 p (I 69 p)) I (I 65 30))) (by rw [wr_self]; exact sck_self I) ?_
  refine dloop (P := fun i => ∀ (xq : Int32) (kpq : Ty) (khq : Int32), V g F cX9_fromWhere RX9 5 8 12 [(4, .int (nI i)), (3, .int (fromF I pp sn p i)), (2, .int (I 69 p)), (0, .ref (g.1 + 65)), (1, .int (nI p))] [] (sck (wr I 69 p xq) kpq khq) L (RT na nt ni) (NT nl) (NB + m) 0 0) 16 ?_ ?_ 0 (Nat.zero_le _) (I 69 p) I (I 65 30)
  · intro xq kpq khq
    refine v_iload dX9_fromWhere_12 0 rfl ?_
    refine v_bipush (v := 16) dX9_fromWhere_14 (by decide) ?_
    refine v_icmp_geN (a := 16) (b := 16) (tgt := 51) dX9_fromWhere_16 (by decide) rfl rfl (by omega) (by omega) (fun h1 => ?_) (fun h => by exfalso; omega)
    refine v_aload_n dX9_fromWhere_51 rfl 3 rfl ?_
    refine v_get (v := .ref (g.1 + 69)) fa_X9_26 dX9_fromWhere_52 rfl (by decide) (ltn rfl) rfl ?_
    refine v_iload_n dX9_fromWhere_55 rfl 4 rfl ?_
    refine v_iload_n dX9_fromWhere_56 rfl 2 rfl ?_
    refine v_iastore (len := 6) (j := p) dX9_fromWhere_57 rfl (ltn rfl) rfl (by decide) rfl (by omega) ?_
    refine v_iload_n dX9_fromWhere_58 rfl 1 rfl ?_
    exact v_iret hr dX9_fromWhere_59 (⟨rfl, ⟨_, _, (sck_wr69 _ _ _ _ _ _).trans (by rw [wr_self])⟩, rfl, rfl, rfl, rfl⟩)
  · intro i hi ih
    intro xq kpq khq
    refine v_iload dX9_fromWhere_12 0 rfl ?_
    refine v_bipush (v := 16) dX9_fromWhere_14 (by decide) ?_
    refine v_icmp_geN (a := i) (b := 16) (tgt := 51) dX9_fromWhere_16 (by decide) rfl rfl (by omega) (by omega) (fun h => by exfalso; omega) (fun h2 => ?_)
    refine v_aload_n dX9_fromWhere_19 rfl 3 rfl ?_
    refine v_get (v := .ref (g.1 + 69)) fa_X9_26 dX9_fromWhere_20 rfl (by decide) (ltn rfl) rfl ?_
    refine v_iload_n dX9_fromWhere_23 rfl 4 rfl ?_
    refine v_iload dX9_fromWhere_24 0 rfl ?_
    refine v_iastore (len := 6) (j := p) dX9_fromWhere_26 rfl (ltn rfl) rfl (by decide) rfl (by omega) ?_
    refine v_I (sck_wr69 _ _ _ _ _ _) ?_
    refine v_iload_n dX9_fromWhere_27 rfl 1 rfl ?_
    refine v_aload_n dX9_fromWhere_28 rfl 3 rfl ?_
    refine v_callVki (As := []) (rest := [.int (fromF I pp sn p i)]) lk_X9_377 (c_X9_isSeen (I := (sck (wr I 69 p (nI i)) kpq khq)) pp hpp hpe hN (okS_up hS hi) hG hM sn hsn hse hsw hst) dX9_fromWhere_29 rfl (ltn rfl) rfl rfl (Nat.le_of_ble_eq_true rfl) (by decide) (fun fq3 hq4 => ?_)
    refine v_is (y := bq (seenP (wr I 69 p (nI i)) pp sn)) rfl ?_
    refine v_I (I2 := (sck (wr I 69 p (nI i)) fq3 hq4)) (sck_sck _ _ _ _ _) ?_
    refine v_ifb_eq (tgt := 42) dX9_fromWhere_32 (by decide) (fun h5 => ?_) (fun h5 => ?_)
    · -- not (seenP (wr I 69 p (nI i)) pp sn)
      refine v_iconst (v := 0) dX9_fromWhere_42 (by decide) ?_
      refine v_ior dX9_fromWhere_43 ?_
      refine v_istore_n (lv2 := [(3, .int ((fromF I pp sn p i) ||| 0)), (4, .int (nI i)), (2, .int (I 69 p)), (0, .ref (g.1 + 65)), (1, .int (nI p))]) dX9_fromWhere_44 rfl (by decide) rfl ?_
      refine v_inc (v := nI (i + 1)) (lv2 := [(4, .int (nI (i + 1))), (3, .int ((fromF I pp sn p i) ||| 0)), (2, .int (I 69 p)), (0, .ref (g.1 + 65)), (1, .int (nI p))]) dX9_fromWhere_45 1 rfl (nx_inc rfl) (by decide) rfl ?_
      refine v_goto (tgt := 12) dX9_fromWhere_48 (by decide) ?_
      refine v_lv (lv2 := [(4, .int (nI (i + 1))), (3, .int (fromF I pp sn p (i + 1))), (2, .int (I 69 p)), (0, .ref (g.1 + 65)), (1, .int (nI p))]) (by simp only [fromF, ifc_f h5]) ?_
      exact ih _ _ _
    · -- (seenP (wr I 69 p (nI i)) pp sn)
      refine v_iconst (v := 1) dX9_fromWhere_35 (by decide) ?_
      refine v_iload dX9_fromWhere_36 0 rfl ?_
      refine v_ishl dX9_fromWhere_38 ?_
      refine v_goto (tgt := 43) dX9_fromWhere_39 (by decide) ?_
      refine v_ior dX9_fromWhere_43 ?_
      refine v_istore_n (lv2 := [(3, .int ((fromF I pp sn p i) ||| (1 <<< (nI i &&& 31)))), (4, .int (nI i)), (2, .int (I 69 p)), (0, .ref (g.1 + 65)), (1, .int (nI p))]) dX9_fromWhere_44 rfl (by decide) rfl ?_
      refine v_inc (v := nI (i + 1)) (lv2 := [(4, .int (nI (i + 1))), (3, .int ((fromF I pp sn p i) ||| (1 <<< (nI i &&& 31)))), (2, .int (I 69 p)), (0, .ref (g.1 + 65)), (1, .int (nI p))]) dX9_fromWhere_45 1 rfl (nx_inc rfl) (by decide) rfl ?_
      refine v_goto (tgt := 12) dX9_fromWhere_48 (by decide) ?_
      refine v_lv (lv2 := [(4, .int (nI (i + 1))), (3, .int (fromF I pp sn p (i + 1))), (2, .int (I 69 p)), (0, .ref (g.1 + 65)), (1, .int (nI p))]) (by simp only [fromF, ifc_t h5]) ?_
      exact ih _ _ _
/-- of the numbers 9, 8 .. how many, the least -/
noncomputable def canF (I : Ty) (pp sn p : Nat) : Nat → Nat × Int32
  | 0 => (0, -5)
  | j + 1 => ifc (seenP (wr I 68 p (nI (9 - j))) pp sn) ((canF I pp sn p j).1 + 1, nI (9 - j)) (canF I pp sn p j)
theorem canF_t {I : Ty} {pp sn p j : Nat} (h : seenP (wr I 68 p (nI (9 - j))) pp sn) : canF I pp sn p (j + 1) = ((canF I pp sn p j).1 + 1, nI (9 - j)) := ifc_t h
theorem canF_f {I : Ty} {pp sn p j : Nat} (h : ¬ seenP (wr I 68 p (nI (9 - j))) pp sn) : canF I pp sn p (j + 1) = canF I pp sn p j := ifc_f h
def kvj (j : Nat) : Int32 := nI (10 - j) - 1
theorem kvj_n : ∀ j, j < 10 → kvj j = nI (9 - j) := by decide +kernel
theorem kvj_s : ∀ j, j < 10 → nI (9 - j) + (-1) = kvj (j + 1) := by decide +kernel
set_option maxRecDepth 100000 in
set_option maxHeartbeats 2000000 in
theorem c_X9_can {g : Gl} {I : Ty} {L : TL} {na nt ni m : Nat} {nl : Nat → Nat} (pz : Int32) (wz : Int32) (pp : Nat) (hpp : pp ≤ 6) (hpe : I 65 0 = nI pp) (hN : mOK I) (hS : okS (mget I)) (hG : okG (I 70)) (hM : I 65 29 = 9999) (sn : Nat) (hsn : sn ≤ 5) (hse : I 65 35 = nI sn) (hsw : ∀ k, k < sn → ∃ x, x < 6 ∧ I 89 k = nI x) (hst : ∀ k, k < sn → ∃ x, x ≤ 12 ∧ I 90 k = nI x) : Ct g yX9_can cX9_can 7 (some .int) 8 0 0 [.ref (g.1 + 65), .int pz, .int wz] I L (RT na nt ni) (NT nl) (NB + m) (Pk (some (.int (ifc (inr pz pp ∧ inr wz 2) (ifc (wz = 0) (nI (canF I pp sn (tn pz) 10).1) (canF I pp sn (tn pz) 10).2) (-1)))) (I) L (RT na nt ni) (NT nl) (NB + m)) := by
  refine ct_of (by decide +kernel) (Nat.le_of_ble_eq_true rfl) (fun F hnm hr => ?_)
  clear hnm
  show V g F cX9_can RX9 7 8 0 [(0, .ref (g.1 + 65)), (1, .int pz), (2, .int wz)] [] I L (RT na nt ni) (NT nl) (NB + m) 0 0
  refine v_aload_n dX9_can_0 rfl 0 rfl ?_
  refine v_iload_n dX9_can_1 rfl 1 rfl ?_
  refine v_callVi (As := [.int pz]) (rest := []) lk_X9_245 (c_X9_isOne pz pp hpp hpe) dX9_can_2 rfl (ltn rfl) rfl rfl (Nat.le_of_ble_eq_true rfl) (by decide) ?_
  refine v_ifb_eq (tgt := 18) dX9_can_5 (by decide) (fun h1 => ?_) (fun h1 => ?_)
  · -- not inr pz pp
    refine v_iconst (v := (-1)) dX9_can_18 (by decide) ?_
    exact v_iret hr dX9_can_19 (⟨congrArg (fun z => some (Value.int z)) (by first | rfl | (simp only [bq, ifc_T, ifc_F, inr_m1, and_true, true_and, and_false, false_and, or_true, true_or, or_false, false_or, not_true_eq_false, not_false_eq_true, and_self, or_self, h1]; done) | (simp [bq, ifc_T, ifc_F, inr_m1, h1]; done) | ((try simp only [bq]); repeat (first | rfl | (refine eq_t ?_ ?_; focus (first | omega | assumption | (simp [inr_m1, h1]; done) | (simp [inr_m1, h1]; omega) | (clear hr; (try clear hkn); simp_all; done))) | (refine eq_f ?_ ?_; focus (first | omega | assumption | (simp [inr_m1, h1]; done) | (simp [inr_m1, h1]; omega) | (clear hr; (try clear hkn); simp_all; done))) | (exfalso; clear hr; (try clear hkn); simp_all; done)))), ⟨_, _, sck_self I⟩, rfl, rfl, rfl, rfl⟩)
  · -- inr pz pp
    obtain ⟨P2, rfl, l3, t4, u5⟩ := inr_ex h1 (by omega)
    refine v_aload_n dX9_can_8 rfl 0 rfl ?_
    refine v_iload_n dX9_can_9 rfl 2 rfl ?_
    refine v_iconst (v := 0) dX9_can_10 (by decide) ?_
    refine v_iconst (v := 1) dX9_can_11 (by decide) ?_
    refine v_callVi (As := [.int wz, .int 0, .int 1]) (rest := []) lk_X9_237 (c_in0 wz 1 (by decide)) dX9_can_12 rfl (ltn rfl) rfl rfl (Nat.le_of_ble_eq_true rfl) (by decide) ?_
    refine v_ifb_ne (tgt := 20) dX9_can_15 (by decide) (fun h6 => ?_) (fun h6 => ?_)
    · -- inr wz 2
      refine v_aload_n dX9_can_20 rfl 0 rfl ?_
      refine v_get (v := .ref (g.1 + 68)) fa_X9_23 dX9_can_21 rfl (by decide) (ltn rfl) rfl ?_
      refine v_iload_n dX9_can_24 rfl 1 rfl ?_
      refine v_iaload (len := 6) (j := P2) dX9_can_25 rfl (ltn rfl) rfl (by decide) rfl (by omega) ?_
      refine v_istore_n (lv2 := [(3, .int (I 68 P2)), (0, .ref (g.1 + 65)), (1, .int (nI P2)), (2, .int wz)]) dX9_can_26 rfl (by decide) rfl ?_
      refine v_iconst (v := 0) dX9_can_27 (by decide) ?_
      refine v_istore (lv2 := [(4, .int 0), (3, .int (I 68 P2)), (0, .ref (g.1 + 65)), (1, .int (nI P2)), (2, .int wz)]) dX9_can_28 (by decide) rfl ?_
      refine v_bipush (v := (-5)) dX9_can_30 (by decide) ?_
      refine v_istore (lv2 := [(5, .int (-5)), (4, .int 0), (3, .int (I 68 P2)), (0, .ref (g.1 + 65)), (1, .int (nI P2)), (2, .int wz)]) dX9_can_32 (by decide) rfl ?_
      refine v_bipush (v := 9) dX9_can_34 (by decide) ?_
      refine v_istore (lv2 := [(6, .int 9), (5, .int (-5)), (4, .int 0), (3, .int (I 68 P2)), (0, .ref (g.1 + 65)), (1, .int (nI P2)), (2, .int wz)]) dX9_can_36 (by decide) rfl ?_
      refine v_lv (lv2 := [(6, .int (kvj 0)), (5, .int ((canF I pp sn P2 0).2)), (4, .int (nI ((canF I pp sn P2 0).1))), (3, .int (I 68 P2)), (0, .ref (g.1 + 65)), (1, .int (nI P2)), (2, .int wz)]) (by rfl) ?_
      refine v_I (I2 := (sck (wr I 68 P2 (I 68 P2)) I (I 65 30))) (by rw [wr_self]; exact sck_self I) ?_
      refine dloop (P := fun i => ∀ (xq : Int32) (kpq : Ty) (khq : Int32), V g F cX9_can RX9 7 8 38 [(6, .int (kvj i)), (5, .int ((canF I pp sn P2 i).2)), (4, .int (nI ((canF I pp sn P2 i).1))), (3, .int (I 68 P2)), (0, .ref (g.1 + 65)), (1, .int (nI P2)), (2, .int wz)] [] (sck (wr I 68 P2 xq) kpq khq) L (RT na nt ni) (NT nl) (NB + m) 0 0) 10 ?_ ?_ 0 (Nat.zero_le _) (I 68 P2) I (I 65 30)
      · intro xq kpq khq
        refine v_iload dX9_can_38 0 rfl ?_
        refine v_if_lt (tgt := 74) dX9_can_40 (by decide) (fun _ => ?_) (fun h7 => by first | exact absurd h7 (by decide) | exact absurd (by decide) h7)
        refine v_aload_n dX9_can_74 rfl 4 rfl ?_
        refine v_get (v := .ref (g.1 + 68)) fa_X9_23 dX9_can_75 rfl (by decide) (ltn rfl) rfl ?_
        refine v_iload_n dX9_can_78 rfl 5 rfl ?_
        refine v_iload_n dX9_can_79 rfl 3 rfl ?_
        refine v_iastore (len := 6) (j := P2) dX9_can_80 rfl (ltn rfl) rfl (by decide) rfl (by omega) ?_
        refine v_iload_n dX9_can_81 rfl 6 rfl ?_
        refine v_if_ne (tgt := 90) dX9_can_82 (by decide) (fun h8 => ?_) (fun h8 => ?_)
        · -- wz ne 0
          refine v_iload dX9_can_90 1 rfl ?_
          exact v_iret hr dX9_can_92 (⟨congrArg (fun z => some (Value.int z)) (by first | rfl | (simp only [bq, ifc_T, ifc_F, inr_m1, and_true, true_and, and_false, false_and, or_true, true_or, or_false, false_or, not_true_eq_false, not_false_eq_true, and_self, or_self, h1, t4, u5, l3, h6, h8]; done) | (simp [bq, ifc_T, ifc_F, inr_m1, h1, t4, u5, l3, h6, h8]; done) | ((try simp only [bq]); repeat (first | rfl | (refine eq_t ?_ ?_; focus (first | omega | assumption | (simp [inr_m1, h1, t4, u5, l3, h6, h8]; done) | (simp [inr_m1, h1, t4, u5, l3, h6, h8]; omega) | (simp only [u5]; omega) | (clear hr; (try clear hkn); simp_all; done))) | (refine eq_f ?_ ?_; focus (first | omega | assumption | (simp [inr_m1, h1, t4, u5, l3, h6, h8]; done) | (simp [inr_m1, h1, t4, u5, l3, h6, h8]; omega) | (simp only [u5]; omega) | (clear hr; (try clear hkn); simp_all; done))) | (simp only [t4]; done) | (exfalso; clear hr; (try clear hkn); simp_all; done)))), ⟨_, _, (sck_wr68 _ _ _ _ _ _).trans (by rw [wr_self])⟩, rfl, rfl, rfl, rfl⟩)
        · -- wz eq 0
          refine v_iload dX9_can_85 2 rfl ?_
          refine v_goto (tgt := 92) dX9_can_87 (by decide) ?_
          exact v_iret hr dX9_can_92 (⟨congrArg (fun z => some (Value.int z)) (by first | rfl | (simp only [bq, ifc_T, ifc_F, inr_m1, and_true, true_and, and_false, false_and, or_true, true_or, or_false, false_or, not_true_eq_false, not_false_eq_true, and_self, or_self, h1, t4, u5, l3, h6, h8]; done) | (simp [bq, ifc_T, ifc_F, inr_m1, h1, t4, u5, l3, h6, h8]; done) | ((try simp only [bq]); repeat (first | rfl | (refine eq_t ?_ ?_; focus (first | omega | assumption | (simp [inr_m1, h1, t4, u5, l3, h6, h8]; done) | (simp [inr_m1, h1, t4, u5, l3, h6, h8]; omega) | (simp only [u5]; omega) | (clear hr; (try clear hkn); simp_all; done))) | (refine eq_f ?_ ?_; focus (first | omega | assumption | (simp [inr_m1, h1, t4, u5, l3, h6, h8]; done) | (simp [inr_m1, h1, t4, u5, l3, h6, h8]; omega) | (simp only [u5]; omega) | (clear hr; (try clear hkn); simp_all; done))) | (simp only [t4]; done) | (exfalso; clear hr; (try clear hkn); simp_all; done)))), ⟨_, _, (sck_wr68 _ _ _ _ _ _).trans (by rw [wr_self])⟩, rfl, rfl, rfl, rfl⟩)
      · intro i hi ih
        intro xq kpq khq
        refine v_lv (lv2 := [(6, .int (nI (9 - i))), (5, .int ((canF I pp sn P2 i).2)), (4, .int (nI ((canF I pp sn P2 i).1))), (3, .int (I 68 P2)), (0, .ref (g.1 + 65)), (1, .int (nI P2)), (2, .int wz)]) (by rw [kvj_n i hi]) ?_
        refine v_iload dX9_can_38 0 rfl ?_
        refine v_if_ltN (a := (9 - i)) (tgt := 74) dX9_can_40 (by decide) rfl (by omega) (fun h => by exfalso; omega) (fun h9 => ?_)
        refine v_aload_n dX9_can_43 rfl 4 rfl ?_
        refine v_get (v := .ref (g.1 + 68)) fa_X9_23 dX9_can_44 rfl (by decide) (ltn rfl) rfl ?_
        refine v_iload_n dX9_can_47 rfl 5 rfl ?_
        refine v_iload dX9_can_48 0 rfl ?_
        refine v_iastore (len := 6) (j := P2) dX9_can_50 rfl (ltn rfl) rfl (by decide) rfl (by omega) ?_
        refine v_I (sck_wr68 _ _ _ _ _ _) ?_
        refine v_aload_n dX9_can_51 rfl 4 rfl ?_
        refine v_callVki (As := []) (rest := []) lk_X9_377 (c_X9_isSeen (I := (sck (wr I 68 P2 (nI (9 - i))) kpq khq)) pp hpp hpe hN hS hG hM sn hsn hse hsw hst) dX9_can_52 rfl (ltn rfl) rfl rfl (Nat.le_of_ble_eq_true rfl) (by decide) (fun fq10 hq11 => ?_)
        refine v_is (y := bq (seenP (wr I 68 P2 (nI (9 - i))) pp sn)) rfl ?_
        refine v_I (I2 := (sck (wr I 68 P2 (nI (9 - i))) fq10 hq11)) (sck_sck _ _ _ _ _) ?_
        refine v_ifb_ne (tgt := 61) dX9_can_55 (by decide) (fun h12 => ?_) (fun h12 => ?_)
        · -- (seenP (wr I 68 P2 (nI (9 - i))) pp sn)
          refine v_inc (v := nI (((canF I pp sn P2 i).1) + 1)) (lv2 := [(4, .int (nI (((canF I pp sn P2 i).1) + 1))), (6, .int (nI (9 - i))), (5, .int ((canF I pp sn P2 i).2)), (3, .int (I 68 P2)), (0, .ref (g.1 + 65)), (1, .int (nI P2)), (2, .int wz)]) dX9_can_61 2 rfl (nx_inc rfl) (by decide) rfl ?_
          refine v_iload dX9_can_64 1 rfl ?_
          refine v_istore (lv2 := [(5, .int (nI (9 - i))), (4, .int (nI (((canF I pp sn P2 i).1) + 1))), (6, .int (nI (9 - i))), (3, .int (I 68 P2)), (0, .ref (g.1 + 65)), (1, .int (nI P2)), (2, .int wz)]) dX9_can_66 (by decide) rfl ?_
          refine v_inc (v := (nI (9 - i) + (-1))) (lv2 := [(6, .int (nI (9 - i) + (-1))), (5, .int (nI (9 - i))), (4, .int (nI (((canF I pp sn P2 i).1) + 1))), (3, .int (I 68 P2)), (0, .ref (g.1 + 65)), (1, .int (nI P2)), (2, .int wz)]) dX9_can_68 2 rfl rfl (by decide) rfl ?_
          refine v_goto (tgt := 38) dX9_can_71 (by decide) ?_
          refine v_lv (lv2 := [(6, .int (kvj (i + 1))), (5, .int ((canF I pp sn P2 (i + 1)).2)), (4, .int (nI ((canF I pp sn P2 (i + 1)).1))), (3, .int (I 68 P2)), (0, .ref (g.1 + 65)), (1, .int (nI P2)), (2, .int wz)]) (by rw [kvj_s i hi, canF_t h12]) ?_
          exact ih _ _ _
        · -- not (seenP (wr I 68 P2 (nI (9 - i))) pp sn)
          refine v_goto (tgt := 68) dX9_can_58 (by decide) ?_
          refine v_inc (v := (nI (9 - i) + (-1))) (lv2 := [(6, .int (nI (9 - i) + (-1))), (5, .int ((canF I pp sn P2 i).2)), (4, .int (nI ((canF I pp sn P2 i).1))), (3, .int (I 68 P2)), (0, .ref (g.1 + 65)), (1, .int (nI P2)), (2, .int wz)]) dX9_can_68 0 rfl rfl (by decide) rfl ?_
          refine v_goto (tgt := 38) dX9_can_71 (by decide) ?_
          refine v_lv (lv2 := [(6, .int (kvj (i + 1))), (5, .int ((canF I pp sn P2 (i + 1)).2)), (4, .int (nI ((canF I pp sn P2 (i + 1)).1))), (3, .int (I 68 P2)), (0, .ref (g.1 + 65)), (1, .int (nI P2)), (2, .int wz)]) (by rw [kvj_s i hi, canF_f h12]) ?_
          exact ih _ _ _
    · -- not inr wz 2
      refine v_iconst (v := (-1)) dX9_can_18 (by decide) ?_
      exact v_iret hr dX9_can_19 (⟨congrArg (fun z => some (Value.int z)) (by first | rfl | (simp only [bq, ifc_T, ifc_F, inr_m1, and_true, true_and, and_false, false_and, or_true, true_or, or_false, false_or, not_true_eq_false, not_false_eq_true, and_self, or_self, h1, t4, u5, l3, h6]; done) | (simp [bq, ifc_T, ifc_F, inr_m1, h1, t4, u5, l3, h6]; done) | ((try simp only [bq]); repeat (first | rfl | (refine eq_t ?_ ?_; focus (first | omega | assumption | (simp [inr_m1, h1, t4, u5, l3, h6]; done) | (simp [inr_m1, h1, t4, u5, l3, h6]; omega) | (simp only [u5]; omega) | (clear hr; (try clear hkn); simp_all; done))) | (refine eq_f ?_ ?_; focus (first | omega | assumption | (simp [inr_m1, h1, t4, u5, l3, h6]; done) | (simp [inr_m1, h1, t4, u5, l3, h6]; omega) | (simp only [u5]; omega) | (clear hr; (try clear hkn); simp_all; done))) | (simp only [t4]; done) | (exfalso; clear hr; (try clear hkn); simp_all; done)))), ⟨_, _, sck_self I⟩, rfl, rfl, rfl, rfl⟩)
set_option maxRecDepth 100000 in
set_option maxHeartbeats 400000 in
theorem c_X9_told {g : Gl} {I : Ty} {L : TL} {na nt ni m : Nat} {nl : Nat → Nat} (wz : Int32) (pp : Nat) (hpp : pp ≤ 6) (hpe : I 65 0 = nI pp) (hN : mOK I) : Ct g yX9_told cX9_told 2 (some .int) 3 0 0 [.ref (g.1 + 65), .int wz] I L (RT na nt ni) (NT nl) (NB + m) (Ps (some (.int (ifc (10 ≤ wz ∧ wz ≤ 25) (I 66 (tn wz - 10)) (ifc (wz = 0) (I 65 1) (ifc (wz = 1) (mfade I) (ifc (wz = 2) (arrF (I 69) (I 70) pp) (ifc (wz = 3) (sumF (I 72) pp) (-1)))))))) (I) L (RT na nt ni) (NT nl) (NB + m)) := by
  refine ct_of (by decide +kernel) (Nat.le_of_ble_eq_true rfl) (fun F hnm hr => ?_)
  clear hnm
  show V g F cX9_told RX9 2 3 0 [(0, .ref (g.1 + 65)), (1, .int wz)] [] I L (RT na nt ni) (NT nl) (NB + m) 0 0
  refine v_aload_n dX9_told_0 rfl 0 rfl ?_
  refine v_iload_n dX9_told_1 rfl 1 rfl ?_
  refine v_bipush (v := 10) dX9_told_2 (by decide) ?_
  refine v_bipush (v := 25) dX9_told_4 (by decide) ?_
  refine v_callVi (As := [.int wz, .int 10, .int 25]) (rest := []) lk_X9_237 (c_X9_in wz 10 25) dX9_told_6 rfl (ltn rfl) rfl rfl (Nat.le_of_ble_eq_true rfl) (by decide) ?_
  refine v_ifb_eq (tgt := 22) dX9_told_9 (by decide) (fun h1 => ?_) (fun h1 => ?_)
  · -- not (10 ≤ wz ∧ wz ≤ 25)
    refine v_iload_n dX9_told_22 rfl 1 rfl ?_
    by_cases k2_0 : wz = 0
    · refine v_is k2_0 ?_
      refine v_tabIn (off := 29) (tgt := 52) dX9_told_23 (by decide) (by decide) (by decide) (by decide) ?_
      refine v_aload_n dX9_told_52 rfl 0 rfl ?_
      refine v_get (v := .int (I 65 1)) fa_X9_13 dX9_told_53 rfl (by decide) (ltn rfl) rfl ?_
      exact v_iret hr dX9_told_56 (psi (by first | rfl | (simp only [bq, ifc_T, ifc_F, inr_m1, and_true, true_and, and_false, false_and, or_true, true_or, or_false, false_or, not_true_eq_false, not_false_eq_true, and_self, or_self, h1, k2_0]; done) | (simp [bq, ifc_T, ifc_F, inr_m1, h1, k2_0]; done) | ((try simp only [bq]); repeat (first | rfl | (refine eq_t ?_ ?_; focus (first | omega | assumption | (simp [inr_m1, h1, k2_0]; done) | (simp [inr_m1, h1, k2_0]; omega) | (clear hr; (try clear hkn); simp_all; done))) | (refine eq_f ?_ ?_; focus (first | omega | assumption | (simp [inr_m1, h1, k2_0]; done) | (simp [inr_m1, h1, k2_0]; omega) | (clear hr; (try clear hkn); simp_all; done))) | (exfalso; clear hr; (try clear hkn); simp_all; done)))) rfl)
    by_cases k2_1 : wz = 1
    · refine v_is k2_1 ?_
      refine v_tabIn (off := 34) (tgt := 57) dX9_told_23 (by decide) (by decide) (by decide) (by decide) ?_
      refine v_aload_n dX9_told_57 rfl 0 rfl ?_
      refine v_callVi (As := []) (rest := []) lk_X9_346 (c_X9_fade hN) dX9_told_58 rfl (ltn rfl) rfl rfl (Nat.le_of_ble_eq_true rfl) (by decide) ?_
      exact v_iret hr dX9_told_61 (psi (by first | rfl | (simp only [bq, ifc_T, ifc_F, inr_m1, and_true, true_and, and_false, false_and, or_true, true_or, or_false, false_or, not_true_eq_false, not_false_eq_true, and_self, or_self, h1, k2_1]; done) | (simp [bq, ifc_T, ifc_F, inr_m1, h1, k2_1]; done) | ((try simp only [bq]); repeat (first | rfl | (refine eq_t ?_ ?_; focus (first | omega | assumption | (simp [inr_m1, h1, k2_1]; done) | (simp [inr_m1, h1, k2_1]; omega) | (clear hr; (try clear hkn); simp_all; done))) | (refine eq_f ?_ ?_; focus (first | omega | assumption | (simp [inr_m1, h1, k2_1]; done) | (simp [inr_m1, h1, k2_1]; omega) | (clear hr; (try clear hkn); simp_all; done))) | (exfalso; clear hr; (try clear hkn); simp_all; done)))) rfl)
    by_cases k2_2 : wz = 2
    · refine v_is k2_2 ?_
      refine v_tabIn (off := 39) (tgt := 62) dX9_told_23 (by decide) (by decide) (by decide) (by decide) ?_
      refine v_aload_n dX9_told_62 rfl 0 rfl ?_
      refine v_callVi (As := []) (rest := []) lk_X9_392 (c_X9_arrived pp hpp hpe) dX9_told_63 rfl (ltn rfl) rfl rfl (Nat.le_of_ble_eq_true rfl) (by decide) ?_
      exact v_iret hr dX9_told_66 (psi (by first | rfl | (simp only [bq, ifc_T, ifc_F, inr_m1, and_true, true_and, and_false, false_and, or_true, true_or, or_false, false_or, not_true_eq_false, not_false_eq_true, and_self, or_self, h1, k2_2]; done) | (simp [bq, ifc_T, ifc_F, inr_m1, h1, k2_2]; done) | ((try simp only [bq]); repeat (first | rfl | (refine eq_t ?_ ?_; focus (first | omega | assumption | (simp [inr_m1, h1, k2_2]; done) | (simp [inr_m1, h1, k2_2]; omega) | (clear hr; (try clear hkn); simp_all; done))) | (refine eq_f ?_ ?_; focus (first | omega | assumption | (simp [inr_m1, h1, k2_2]; done) | (simp [inr_m1, h1, k2_2]; omega) | (clear hr; (try clear hkn); simp_all; done))) | (exfalso; clear hr; (try clear hkn); simp_all; done)))) rfl)
    by_cases k2_3 : wz = 3
    · refine v_is k2_3 ?_
      refine v_tabIn (off := 44) (tgt := 67) dX9_told_23 (by decide) (by decide) (by decide) (by decide) ?_
      refine v_aload_n dX9_told_67 rfl 0 rfl ?_
      refine v_callVi (As := []) (rest := []) lk_X9_395 (c_X9_allNoes pp hpp hpe) dX9_told_68 rfl (ltn rfl) rfl rfl (Nat.le_of_ble_eq_true rfl) (by decide) ?_
      exact v_iret hr dX9_told_71 (psi (by first | rfl | (simp only [bq, ifc_T, ifc_F, inr_m1, and_true, true_and, and_false, false_and, or_true, true_or, or_false, false_or, not_true_eq_false, not_false_eq_true, and_self, or_self, h1, k2_3]; done) | (simp [bq, ifc_T, ifc_F, inr_m1, h1, k2_3]; done) | ((try simp only [bq]); repeat (first | rfl | (refine eq_t ?_ ?_; focus (first | omega | assumption | (simp [inr_m1, h1, k2_3]; done) | (simp [inr_m1, h1, k2_3]; omega) | (clear hr; (try clear hkn); simp_all; done))) | (refine eq_f ?_ ?_; focus (first | omega | assumption | (simp [inr_m1, h1, k2_3]; done) | (simp [inr_m1, h1, k2_3]; omega) | (clear hr; (try clear hkn); simp_all; done))) | (exfalso; clear hr; (try clear hkn); simp_all; done)))) rfl)
    have t3 : wz.toInt < 0 ∨ 3 < wz.toInt := by
      rcases sw_out wz (0) (3) with h | h | ⟨ha, hb⟩
      · exact Or.inl h
      · exact Or.inr h
      · exfalso
        have hz : ∀ z : Int, 0 ≤ z → z ≤ 3 → z = 0 ∨ z = 1 ∨ z = 2 ∨ z = 3 := by omega
        rcases hz _ ha hb with e | e | e | e
        · exact absurd (sw_eq (k := 0) e (by decide)) k2_0
        · exact absurd (sw_eq (k := 1) e (by decide)) k2_1
        · exact absurd (sw_eq (k := 2) e (by decide)) k2_2
        · exact absurd (sw_eq (k := 3) e (by decide)) k2_3
    refine v_tabOut (tgt := 72) dX9_told_23 t3 (by decide) ?_
    refine v_iconst (v := (-1)) dX9_told_72 (by decide) ?_
    exact v_iret hr dX9_told_73 (psi (by first | rfl | (simp only [bq, ifc_T, ifc_F, inr_m1, and_true, true_and, and_false, false_and, or_true, true_or, or_false, false_or, not_true_eq_false, not_false_eq_true, and_self, or_self, h1, k2_0, k2_1, k2_2, k2_3]; done) | (simp [bq, ifc_T, ifc_F, inr_m1, h1, k2_0, k2_1, k2_2, k2_3]; done) | ((try simp only [bq]); repeat (first | rfl | (refine eq_t ?_ ?_; focus (first | omega | assumption | (simp [inr_m1, h1, k2_0, k2_1, k2_2, k2_3]; done) | (simp [inr_m1, h1, k2_0, k2_1, k2_2, k2_3]; omega) | (clear hr; (try clear hkn); simp_all; done))) | (refine eq_f ?_ ?_; focus (first | omega | assumption | (simp [inr_m1, h1, k2_0, k2_1, k2_2, k2_3]; done) | (simp [inr_m1, h1, k2_0, k2_1, k2_2, k2_3]; omega) | (clear hr; (try clear hkn); simp_all; done))) | (exfalso; clear hr; (try clear hkn); simp_all; done)))) rfl)
  · -- (10 ≤ wz ∧ wz ≤ 25)
    obtain ⟨hwe, hw1, hw2⟩ := rng h1 (a := 10) (b := 25) rfl rfl (by decide) (by decide)
    refine v_aload_n dX9_told_12 rfl 0 rfl ?_
    refine v_get (v := .ref (g.1 + 66)) fa_X9_16 dX9_told_13 rfl (by decide) (ltn rfl) rfl ?_
    refine v_iload_n dX9_told_16 rfl 1 rfl ?_
    refine v_bipush (v := 10) dX9_told_17 (by decide) ?_
    refine v_isub dX9_told_19 ?_
    refine v_is (nx_sub (a := (tn wz)) (b := 10) hwe rfl (by omega)) ?_
    refine v_iaload (len := 16) (j := ((tn wz) - 10)) dX9_told_20 rfl (ltn rfl) rfl (by decide) rfl (by omega) ?_
    exact v_iret hr dX9_told_21 (psi (by first | rfl | (simp only [bq, ifc_T, ifc_F, inr_m1, and_true, true_and, and_false, false_and, or_true, true_or, or_false, false_or, not_true_eq_false, not_false_eq_true, and_self, or_self, h1]; done) | (simp [bq, ifc_T, ifc_F, inr_m1, h1]; done) | ((try simp only [bq]); repeat (first | rfl | (refine eq_t ?_ ?_; focus (first | omega | assumption | (simp [inr_m1, h1]; done) | (simp [inr_m1, h1]; omega) | (clear hr; (try clear hkn); simp_all; done))) | (refine eq_f ?_ ?_; focus (first | omega | assumption | (simp [inr_m1, h1]; done) | (simp [inr_m1, h1]; omega) | (clear hr; (try clear hkn); simp_all; done))) | (exfalso; clear hr; (try clear hkn); simp_all; done)))) rfl)
