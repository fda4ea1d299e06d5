/-- as I off the scratch rows -/
def offS (I' I : Ty) : Prop := ∀ a, ¬ (32 ≤ a ∧ a ≤ 42) → I' a = I a
theorem scC_off {I' I : Ty} (h : offS I' I) : I' = scC I I' := by
  funext a; unfold scC
  split
  · rfl
  · next q => exact h a q
theorem offS_0 (I : Ty) : offS I I := fun _ _ => rfl
theorem offS_t {I I1 I2 : Ty} (h1 : offS I2 I1) (h2 : offS I1 I) : offS I2 I := fun a q => (h1 a q).trans (h2 a q)
theorem offS_up {I' I : Ty} {k : Nat} {f : Nat → Int32} (h : offS I' I) (h1 : 32 ≤ k) (h2 : k ≤ 42) : offS (va_up I' k f) I := fun a q => (up_off _ _ (by omega)).trans (h a q)
theorem offS_H {I' I : Ty} {z : ZH} (h : offS I' I) : offS (mpH33 I' z) I := fun a q => by
  unfold mpH33 mpC33
  rw [up_off _ _ (by omega), up_off _ _ (by omega), up_off _ _ (by omega), up_off _ _ (by omega)]
  exact h a q
theorem offS_try {I' I : Ty} {lk : Int32} {pp : Nat} (h : offS I' I) : offS (tryI I' lk pp) I := fun a q => by
  unfold tryI
  show va_up (cpL I' 33 23) 33 _ a = _
  rw [up_off _ _ (by omega)]
  unfold cpL
  rw [if_neg (by omega), if_neg (by omega), if_neg (by omega), if_neg (by omega), if_neg (by omega), if_neg (by omega), if_neg (by omega), if_neg (by omega), if_neg (by omega)]
  exact h a q
theorem offS_cp {I' I : Ty} (h : offS I' I) : offS (cpL I' 33 23) I := fun a q => by
  unfold cpL
  rw [if_neg (by omega), if_neg (by omega), if_neg (by omega), if_neg (by omega), if_neg (by omega), if_neg (by omega), if_neg (by omega), if_neg (by omega), if_neg (by omega)]
  exact h a q
theorem offS_s {I' I : Ty} {x : Nat} (h : offS I' I) : I' (scell x) = I (scell x) := h _ (by have := scell_off x; omega)
theorem offS_n {I' I : Ty} {x : Nat} (h : offS I' I) : I' (ncell x) = I (ncell x) := h _ (by have := ncell_off x; omega)
/-- so it goes on in a trial where those of lk are looked at -/
noncomputable def chT (I : Ty) (nl : Nat → Nat) (na pp : Nat) (ga vv sp : Nat → Int32) (lk : Int32) (k : Nat) : ZH := chrN (gng (I 25) lk pp) ga (I 25) vv (I 28) (I 31) pp (nsW I nl na) (I (ncell na) 0) (lessC 1000000) ((sp, I 29, I 30), I 23 9) k
/-- the state of a trial: who is looked at, gates, numbers, places -/
def triS (I' I : Ty) (lk : Int32) (pp : Nat) (ga vv sp : Nat → Int32) : Prop := offS I' I ∧ I' 33 11 = gng (I 25) lk pp ∧ I' 33 1 = I 23 1 ∧ I' 33 9 = I 23 9 ∧ I' 34 = ga ∧ I' 35 = I 25 ∧ I' 36 = vv ∧ I' 37 = sp ∧ I' 38 = I 28 ∧ I' 39 = I 29 ∧ I' 40 = I 30 ∧ I' 41 = I 31
theorem triS_0 {I' I : Ty} {lk : Int32} {pp : Nat} (h : offS I' I) : triS (tryI I' lk pp) I lk pp (I 24) (I 26) (I 27) := by
  refine ⟨offS_try h, ?_, ?_, ?_, ?_, ?_, ?_, ?_, ?_, ?_, ?_, ?_⟩
  · show gng (I' 25) lk pp = _; rw [h 25 (by omega)]
  · show I' 23 1 = _; rw [h 23 (by omega)]
  · show I' 23 9 = _; rw [h 23 (by omega)]
  · exact h 24 (by omega)
  · exact h 25 (by omega)
  · exact h 26 (by omega)
  · exact h 27 (by omega)
  · exact h 28 (by omega)
  · exact h 29 (by omega)
  · exact h 30 (by omega)
  · exact h 31 (by omega)
theorem triS_g {I' I : Ty} {lk : Int32} {pp : Nat} {ga vv sp : Nat → Int32} {c : Nat} {v : Int32} (h : triS I' I lk pp ga vv sp) : triS (wr I' 34 c v) I lk pp (va_up ga c v) vv sp := by
  obtain ⟨h0, h1, h2, h3, h4, h5, h6, h7, h8, h9, h10, h11⟩ := h
  exact ⟨offS_up h0 (by decide) (by decide), h1, h2, h3, by rw [← h4]; exact up_at _ _ _, h5, h6, h7, h8, h9, h10, h11⟩
theorem triS_v {I' I : Ty} {lk : Int32} {pp : Nat} {ga vv sp : Nat → Int32} {c : Nat} {v : Int32} (h : triS I' I lk pp ga vv sp) : triS (wr I' 36 c v) I lk pp ga (va_up vv c v) sp := by
  obtain ⟨h0, h1, h2, h3, h4, h5, h6, h7, h8, h9, h10, h11⟩ := h
  exact ⟨offS_up h0 (by decide) (by decide), h1, h2, h3, h4, h5, by rw [← h6]; exact up_at _ _ _, h7, h8, h9, h10, h11⟩
theorem triS_p {I' I : Ty} {lk : Int32} {pp : Nat} {ga vv sp : Nat → Int32} {c : Nat} {v : Int32} (h : triS I' I lk pp ga vv sp) : triS (wr I' 37 c v) I lk pp ga vv (va_up sp c v) := by
  obtain ⟨h0, h1, h2, h3, h4, h5, h6, h7, h8, h9, h10, h11⟩ := h
  exact ⟨offS_up h0 (by decide) (by decide), h1, h2, h3, h4, h5, h6, by rw [← h7]; exact up_at _ _ _, h8, h9, h10, h11⟩
theorem triS_c {I' I : Ty} {nl : Nat → Nat} {na : Nat} {lk : Int32} {pp : Nat} {ga vv sp : Nat → Int32} (h : triS I' I lk pp ga vv sp) (k : Nat) : chrN (I' 33 11) (I' 34) (I' 35) (I' 36) (I' 38) (I' 41) pp (nsW I' nl na) (I' (ncell na) 0) (lessC 1000000) (mgH33 I') k = chT I nl na pp ga vv sp lk k := by
  obtain ⟨h0, h1, h2, h3, h4, h5, h6, h7, h8, h9, h10, h11⟩ := h
  unfold chT mgH33 mgC33
  rw [h1, h3, h4, h5, h6, h7, h8, h9, h10, h11, nsW_off (offS_s h0), offS_n h0]
set_option maxRecDepth 100000 in
set_option maxHeartbeats 2000000 in
theorem c_X8_thereOf {g : Gl} {I : Ty} {L : TL} {na nt ni m : Nat} {nl : Nat → Nat} (pz : Nat) (pp : Nat) (hpp : pp ≤ 6) (hpe : I 23 1 = nI pp) (hpz : pz < 6) (hxm : 2 * na ≤ m) (hsl : sln nl na ≤ 100) (hok : okSt (I (scell na)) (sln nl na)) (hS : okS (mgC23 I)) (hch : ChOK (I 29)) (hG : okG (I 28)) : Ct g yX8_thereOf cX8_thereOf 2 (some .int) 6 0 0 [.ref (g.1 + 0), .int (nI pz)] I L (RT na nt ni) (NT nl) (NB + m) (PZ na ni m nl (some (.int ((ifc (I 28 pz < 0) (-5) (frsV (fun k => (chT I nl na pp (I 24) (I 26) (I 27) ((1 : Int32) <<< (nI pz &&& 31)) k).1.1 pz = I 28 pz) 41))))) (I) L) := by
  refine ct_of (by decide +kernel) (Nat.le_of_ble_eq_true rfl) (fun F hnm hr => ?_)
  clear hnm
  show V g F cX8_thereOf RX8 2 6 0 [(0, .ref (g.1 + 0)), (1, .int (nI pz))] [] I L (RT na nt ni) (NT nl) (NB + m) 0 0
  refine v_aload_n dX8_thereOf_0 rfl 0 rfl ?_
  refine v_get (v := .ref (g.1 + 33)) fa_X8_55 dX8_thereOf_1 rfl (by decide) (ltn rfl) rfl ?_
  refine v_aload_n dX8_thereOf_4 rfl 0 rfl ?_
  refine v_get (v := .ref (g.1 + 23)) fa_X8_51 dX8_thereOf_5 rfl (by decide) (ltn rfl) rfl ?_
  refine v_iconst (v := 1) dX8_thereOf_8 (by decide) ?_
  refine v_iload_n dX8_thereOf_9 rfl 1 rfl ?_
  refine v_ishl dX8_thereOf_10 ?_
  refine v_st (st2 := [.int ((1 : Int32) <<< (nI pz &&& 31)), .ref (g.1 + 23), .ref (g.1 + 33)]) rfl ?_
  refine v_callVv (As := [.ref (g.1 + 23), .int ((1 : Int32) <<< (nI pz &&& 31))]) (rest := []) lk_X8_172 (c_X2_tryFor (I := I) ((1 : Int32) <<< (nI pz &&& 31)) pp hpp hpe) dX8_thereOf_11 rfl (ltn rfl) rfl rfl (Nat.le_of_ble_eq_true rfl) (by decide) ?_
  have ht1 : triS (tryI I ((1 : Int32) <<< (nI pz &&& 31)) pp) I ((1 : Int32) <<< (nI pz &&& 31)) pp (I 24) (I 26) (I 27) := triS_0 (offS_0 I)
  refine v_aload_n dX8_thereOf_14 rfl 0 rfl ?_
  refine v_get (v := .ref (g.1 + 33)) fa_X8_55 dX8_thereOf_15 rfl (by decide) (ltn rfl) rfl ?_
  refine v_iload_n dX8_thereOf_18 rfl 1 rfl ?_
  refine v_bipush (v := 40) dX8_thereOf_19 (by decide) ?_
  refine v_is (y := nI 41 - 1) (by decide) ?_
  refine v_callV (As := [.int (nI pz), .int (nI 41 - 1)]) (rest := []) lk_X8_304 (c_hoursToGoal (I := (tryI I ((1 : Int32) <<< (nI pz &&& 31)) pp)) pz pp hpp (ht1.2.2.1.trans hpe) (by omega) 41 (by omega) hxm hsl (by rw [offS_s ht1.1]; exact hok) (by have q := ht1.2.2.2.2.2.2.2.1; intro p hp; obtain ⟨c, hc, e⟩ := hS p hp; exact ⟨c, hc, (congrFun q p).trans e⟩) (by rw [ht1.2.2.2.2.2.2.2.2.2.1]; exact hch) (by rw [ht1.2.2.2.2.2.2.2.2.1]; exact hG)) dX8_thereOf_21 rfl (ltn rfl) rfl rfl (Nat.le_of_ble_eq_true rfl) (by decide) (Nat.zero_le _) (Nat.zero_le _) (fun v I2 L_ R_ N_ n_ q3 => ?_)
  obtain ⟨rfl, ⟨zq, fq, rfl⟩, rfl, rfl, rfl, rfl⟩ := q3
  refine v_st (st2 := [.int (ifc (I 28 pz < 0) (-5) (frsV (fun k => (chT I nl na pp (I 24) (I 26) (I 27) ((1 : Int32) <<< (nI pz &&& 31)) k).1.1 pz = I 28 pz) 41))]) (by show [Value.int _] = _; simp only [triS_c ht1]; simp only [ht1.2.2.2.2.2.2.2.2.1]) ?_
  exact v_iret hr dX8_thereOf_24 (⟨congrArg (fun z => some (Value.int z)) (by rfl), ⟨_, scC_off (offS_up (offS_H ht1.1) (by decide) (by decide))⟩, rfl, ⟨_, rfl⟩, rfl, rfl⟩)
set_option maxRecDepth 100000 in
set_option maxHeartbeats 4000000 in
theorem c_X8_on {g : Gl} {I : Ty} {L : TL} {na nt ni m : Nat} {nl : Nat → Nat} (nz : Int32) (wz : Int32) (pp : Nat) (hpp : pp ≤ 6) (hpe : I 23 1 = nI pp) (hxm : 2 * na ≤ m) (hsl : sln nl na ≤ 100) (hok : okSt (I (scell na)) (sln nl na)) (hS : okS (mgC23 I)) (hch : ChOK (I 29)) (hG : okG (I 28)) : Ct g yX8_on cX8_on 5 (some .int) 6 0 0 [.ref (g.1 + 0), .int nz, .int wz] I L (RT na nt ni) (NT nl) (NB + m) (PZ na ni m nl (some (.int (ifc (¬ (wz / 10) < 1 ∧ ¬ 3 < (wz / 10) ∧ inr (wz - wz / 10 * 10) pp) (ifc (inr nz 41) (ifc ((wz / 10) = 1) ((chT I nl na pp (I 24) (I 26) (I 27) (1 <<< ((wz - wz / 10 * 10) &&& 31)) (tn nz)).1.1 (tn (wz - wz / 10 * 10))) (ifc ((wz / 10) = 2) ((chT I nl na pp (I 24) (I 26) (I 27) (1 <<< ((wz - wz / 10 * 10) &&& 31)) (tn nz)).1.2.1 (tn (wz - wz / 10 * 10))) ((chT I nl na pp (I 24) (I 26) (I 27) (1 <<< ((wz - wz / 10 * 10) &&& 31)) (tn nz)).1.2.2 (tn (wz - wz / 10 * 10))))) (-2)) (-1)))) (I) L) := by
  refine ct_of (by decide +kernel) (Nat.le_of_ble_eq_true rfl) (fun F hnm hr => ?_)
  clear hnm
  show V g F cX8_on RX8 5 6 0 [(0, .ref (g.1 + 0)), (1, .int nz), (2, .int wz)] [] I L (RT na nt ni) (NT nl) (NB + m) 0 0
  refine v_iload_n dX8_on_0 rfl 2 rfl ?_
  refine v_bipush (v := 10) dX8_on_1 (by decide) ?_
  refine v_idiv dX8_on_3 (by decide) ?_
  refine v_istore_n (lv2 := [(3, .int (wz / 10)), (0, .ref (g.1 + 0)), (1, .int nz), (2, .int wz)]) dX8_on_4 rfl (by decide) rfl ?_
  refine v_iload_n dX8_on_5 rfl 3 rfl ?_
  refine v_bipush (v := 10) dX8_on_6 (by decide) ?_
  refine v_irem dX8_on_8 (by decide) ?_
  refine v_istore (lv2 := [(4, .int (wz - wz / 10 * 10)), (3, .int (wz / 10)), (0, .ref (g.1 + 0)), (1, .int nz), (2, .int wz)]) dX8_on_9 (by decide) rfl ?_
  refine v_iload_n dX8_on_11 rfl 1 rfl ?_
  refine v_iconst (v := 1) dX8_on_12 (by decide) ?_
  refine v_icmp_lt (tgt := 30) dX8_on_13 (by decide) (fun h2 => ?_) (fun h2 => ?_)
  · refine v_iconst (v := (-1)) dX8_on_30 (by decide) ?_
    exact v_iret hr dX8_on_31 (⟨congrArg (fun z => some (Value.int z)) (by rw [ifc_f (fun q => q.1 h2)]), ⟨_, scC_off (offS_0 I)⟩, rfl, ⟨_, rfl⟩, rfl, rfl⟩)
  · refine v_iload_n dX8_on_16 rfl 1 rfl ?_
    refine v_iconst (v := 3) dX8_on_17 (by decide) ?_
    refine v_icmp_gt (tgt := 30) dX8_on_18 (by decide) (fun h4 => ?_) (fun h4 => ?_)
    · refine v_iconst (v := (-1)) dX8_on_30 (by decide) ?_
      exact v_iret hr dX8_on_31 (⟨congrArg (fun z => some (Value.int z)) (by rw [ifc_f (fun q => q.2.1 h4)]), ⟨_, scC_off (offS_0 I)⟩, rfl, ⟨_, rfl⟩, rfl, rfl⟩)
    · refine v_aload_n dX8_on_21 rfl 2 rfl ?_
      refine v_iload dX8_on_22 0 rfl ?_
      refine v_callVi (As := [.int (wz - wz / 10 * 10)]) (rest := []) lk_X8_74 (c_X8_isTraveller (wz - wz / 10 * 10) pp hpp hpe) dX8_on_24 rfl (ltn rfl) rfl rfl (Nat.le_of_ble_eq_true rfl) (by decide) ?_
      refine v_ifb_ne (tgt := 32) dX8_on_27 (by decide) (fun h5 => ?_) (fun h5 => ?_)
      · have hoc : (¬ (wz / 10) < 1 ∧ ¬ 3 < (wz / 10) ∧ inr (wz - wz / 10 * 10) pp) := ⟨h2, h4, h5⟩
        have hqe := inr_nI h5
        have hql := inr_lt h5
        refine v_iload_n dX8_on_32 rfl 3 rfl ?_
        refine v_callSi (As := [.int nz]) (rest := []) lk_X8_165 (c_X8_isHours nz) dX8_on_33 rfl rfl (Nat.le_of_ble_eq_true rfl) (by decide) ?_
        refine v_ifb_ne (tgt := 42) dX8_on_36 (by decide) (fun h6 => ?_) (fun h6 => ?_)
        · have e7 := inr_nI h6
          have l8 := inr_lt h6
          refine v_aload_n dX8_on_42 rfl 2 rfl ?_
          refine v_get (v := .ref (g.1 + 33)) fa_X8_55 dX8_on_43 rfl (by decide) (ltn rfl) rfl ?_
          refine v_aload_n dX8_on_46 rfl 2 rfl ?_
          refine v_get (v := .ref (g.1 + 23)) fa_X8_51 dX8_on_47 rfl (by decide) (ltn rfl) rfl ?_
          refine v_iconst (v := 1) dX8_on_50 (by decide) ?_
          refine v_iload dX8_on_51 0 rfl ?_
          refine v_ishl dX8_on_53 ?_
          refine v_callVv (As := [.ref (g.1 + 23), .int (1 <<< ((wz - wz / 10 * 10) &&& 31))]) (rest := []) lk_X8_172 (c_X2_tryFor (I := I) (1 <<< ((wz - wz / 10 * 10) &&& 31)) pp hpp hpe) dX8_on_54 rfl (ltn rfl) rfl rfl (Nat.le_of_ble_eq_true rfl) (by decide) ?_
          have ht9 : triS (tryI I (1 <<< ((wz - wz / 10 * 10) &&& 31)) pp) I (1 <<< ((wz - wz / 10 * 10) &&& 31)) pp (I 24) (I 26) (I 27) := triS_0 (offS_0 I)
          refine v_aload_n dX8_on_57 rfl 2 rfl ?_
          refine v_get (v := .ref (g.1 + 33)) fa_X8_55 dX8_on_58 rfl (by decide) (ltn rfl) rfl ?_
          refine v_iload_n dX8_on_61 rfl 3 rfl ?_
          refine v_ldc dX8_on_62 uc_X8_176 ?_
          refine v_st (st2 := [.int 1000000, .int (nI (tn nz)), .ref (g.1 + 33)]) (by rw [← e7]) ?_
          refine v_callVfv (As := [.int (nI (tn nz)), .int 1000000]) (rest := []) lk_X8_168 (c_goHours_33 (I := (tryI I (1 <<< ((wz - wz / 10 * 10) &&& 31)) pp)) (tn nz) 1000000 pp hpp (ht9.2.2.1.trans hpe) (by omega) hxm hsl (by rw [offS_s ht9.1]; exact hok) (by have q := ht9.2.2.2.2.2.2.2.1; intro p hp; obtain ⟨c, hc, e⟩ := hS p hp; exact ⟨c, hc, (congrFun q p).trans e⟩) (by rw [ht9.2.2.2.2.2.2.2.2.2.1]; exact hch) (by rw [ht9.2.2.2.2.2.2.2.2.1]; exact hG)) dX8_on_64 rfl (ltn rfl) rfl rfl (Nat.le_of_ble_eq_true rfl) (by decide) (fun fq10 => ?_)
          refine v_I (I2 := (va_up (mpH33 (tryI I (1 <<< ((wz - wz / 10 * 10) &&& 31)) pp) (chT I nl na pp (I 24) (I 26) (I 27) (1 <<< ((wz - wz / 10 * 10) &&& 31)) (tn nz))) 42 fq10)) (by rw [triS_c ht9]) ?_
          refine v_iload_n dX8_on_67 rfl 1 rfl ?_
          by_cases k11_1 : (wz / 10) = 1
          · refine v_is k11_1 ?_
            refine v_look (off := 28) (tgt := 96) dX8_on_68 (by decide) (by decide) (by decide) ?_
            refine v_aload_n dX8_on_96 rfl 2 rfl ?_
            refine v_get (v := .ref (g.1 + 33)) fa_X8_55 dX8_on_97 rfl (by decide) (ltn rfl) rfl ?_
            refine v_get (v := .ref (g.1 + 37)) fa_X8_84 dX8_on_100 rfl (by decide) (ltn rfl) rfl ?_
            refine v_iload dX8_on_103 0 rfl ?_
            refine v_iaload (len := 6) (j := (tn (wz - wz / 10 * 10))) dX8_on_105 rfl (ltn rfl) rfl (by decide) hqe (by omega) ?_
            refine v_is (y := (chT I nl na pp (I 24) (I 26) (I 27) (1 <<< ((wz - wz / 10 * 10) &&& 31)) (tn nz)).1.1 (tn (wz - wz / 10 * 10))) (by rfl) ?_
            exact v_iret hr dX8_on_106 (⟨congrArg (fun z => some (Value.int z)) (by rw [ifc_t hoc, ifc_t h6, ifc_t k11_1]), ⟨_, scC_off (offS_up (offS_H ht9.1) (by decide) (by decide))⟩, rfl, ⟨_, rfl⟩, rfl, rfl⟩)
          by_cases k11_2 : (wz / 10) = 2
          · refine v_is k11_2 ?_
            refine v_look (off := 39) (tgt := 107) dX8_on_68 (by decide) (by decide) (by decide) ?_
            refine v_aload_n dX8_on_107 rfl 2 rfl ?_
            refine v_get (v := .ref (g.1 + 33)) fa_X8_55 dX8_on_108 rfl (by decide) (ltn rfl) rfl ?_
            refine v_get (v := .ref (g.1 + 39)) fa_X8_94 dX8_on_111 rfl (by decide) (ltn rfl) rfl ?_
            refine v_iload dX8_on_114 0 rfl ?_
            refine v_iaload (len := 6) (j := (tn (wz - wz / 10 * 10))) dX8_on_116 rfl (ltn rfl) rfl (by decide) hqe (by omega) ?_
            refine v_is (y := (chT I nl na pp (I 24) (I 26) (I 27) (1 <<< ((wz - wz / 10 * 10) &&& 31)) (tn nz)).1.2.1 (tn (wz - wz / 10 * 10))) (by rfl) ?_
            exact v_iret hr dX8_on_117 (⟨congrArg (fun z => some (Value.int z)) (by rw [ifc_t hoc, ifc_t h6, ifc_f (show ¬ (wz / 10) = 1 by rw [k11_2]; decide), ifc_t k11_2]), ⟨_, scC_off (offS_up (offS_H ht9.1) (by decide) (by decide))⟩, rfl, ⟨_, rfl⟩, rfl, rfl⟩)
          refine v_look (off := 50) (tgt := 118) dX8_on_68 (by decide) (sw_lk _ _ _ (by intro q hq; have hq : q ∈ ([(1, 28), (2, 39)] : List (Int × Int)) := hq; simp only [List.mem_cons, List.not_mem_nil, or_false] at hq; rcases hq with rfl | rfl <;> first | exact sw_ne k11_1 (by decide) | exact sw_ne k11_2 (by decide))) (by decide) ?_
          refine v_aload_n dX8_on_118 rfl 2 rfl ?_
          refine v_get (v := .ref (g.1 + 33)) fa_X8_55 dX8_on_119 rfl (by decide) (ltn rfl) rfl ?_
          refine v_get (v := .ref (g.1 + 40)) fa_X8_97 dX8_on_122 rfl (by decide) (ltn rfl) rfl ?_
          refine v_iload dX8_on_125 0 rfl ?_
          refine v_iaload (len := 6) (j := (tn (wz - wz / 10 * 10))) dX8_on_127 rfl (ltn rfl) rfl (by decide) hqe (by omega) ?_
          refine v_is (y := (chT I nl na pp (I 24) (I 26) (I 27) (1 <<< ((wz - wz / 10 * 10) &&& 31)) (tn nz)).1.2.2 (tn (wz - wz / 10 * 10))) (by rfl) ?_
          exact v_iret hr dX8_on_128 (⟨congrArg (fun z => some (Value.int z)) (by rw [ifc_t hoc, ifc_t h6, ifc_f k11_1, ifc_f k11_2]), ⟨_, scC_off (offS_up (offS_H ht9.1) (by decide) (by decide))⟩, rfl, ⟨_, rfl⟩, rfl, rfl⟩)
        · refine v_bipush (v := (-2)) dX8_on_39 (by decide) ?_
          exact v_iret hr dX8_on_41 (⟨congrArg (fun z => some (Value.int z)) (by rw [ifc_t hoc, ifc_f h6]), ⟨_, scC_off (offS_0 I)⟩, rfl, ⟨_, rfl⟩, rfl, rfl⟩)
      · refine v_iconst (v := (-1)) dX8_on_30 (by decide) ?_
        exact v_iret hr dX8_on_31 (⟨congrArg (fun z => some (Value.int z)) (by rw [ifc_f (fun q => h5 q.2.2)]), ⟨_, scC_off (offS_0 I)⟩, rfl, ⟨_, rfl⟩, rfl, rfl⟩)
