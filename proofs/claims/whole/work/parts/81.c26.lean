section
variable (P : Nat → Nat → Prop) (ng : Prop) (l0 : Nat)
noncomputable def kyC : Nat → Int32 × Nat
  | 0 => (-5, l0)
  | c + 1 => ifc (ng ∨ frst (P c) (kyC c).2 = (kyC c).2) (kyC c) (nI c, frst (P c) (kyC c).2)
end
section
variable {P : Nat → Nat → Prop} {ng : Prop} {l0 : Nat}
theorem kyC_t {c : Nat} (h : ng ∨ frst (P c) (kyC P ng l0 c).2 = (kyC P ng l0 c).2) : kyC P ng l0 (c + 1) = kyC P ng l0 c := ifc_t h
theorem kyC_f {c : Nat} (h : ¬ (ng ∨ frst (P c) (kyC P ng l0 c).2 = (kyC P ng l0 c).2)) : kyC P ng l0 (c + 1) = (nI c, frst (P c) (kyC P ng l0 c).2) := ifc_f h
theorem kyC_le (h0 : l0 ≤ 41) : ∀ c, (kyC P ng l0 c).2 ≤ 41
  | 0 => h0
  | c + 1 => by
    by_cases h : ng ∨ frst (P c) (kyC P ng l0 c).2 = (kyC P ng l0 c).2
    · rw [kyC_t h]; exact kyC_le h0 c
    · rw [kyC_f h]; exact Nat.le_trans (frst_le _ _) (kyC_le h0 c)
end
theorem hv_no {ng : Prop} {P : Nat → Prop} {k : Nat} (h : ng ∨ frst P k = k) : ifc ng (-5) (frsV P k) = -5 := by
  rcases h with h | h
  · exact ifc_t h
  · by_cases q : ng
    · exact ifc_t q
    · rw [ifc_f q]; unfold frsV; exact ifc_t h
theorem hv_yes {ng : Prop} {P : Nat → Prop} {k : Nat} (h : ¬ (ng ∨ frst P k = k)) : ifc ng (-5) (frsV P k) = nI (frst P k) := by
  rw [ifc_f (fun q => h (Or.inl q))]; unfold frsV; exact ifc_f (fun q => h (Or.inr q))
section
variable (ch : Nat → Int32) (rf : Int32) (pp p sz gz : Nat)
noncomputable def lnC : Nat → Nat × Int32
  | 0 => (7, -5)
  | s + 1 => ifc (¬ hb (nI s) p ∧ bitc (nI s) 16 < (lnC s).1 ∧ lead (ch p ||| chF ch (nI s) pp) rf sz gz) (bitc (nI s) 16, nI s) (lnC s)
end
section
variable {ch : Nat → Int32} {rf : Int32} {pp p sz gz : Nat}
theorem lnC_t {s : Nat} (h : ¬ hb (nI s) p ∧ bitc (nI s) 16 < (lnC ch rf pp p sz gz s).1 ∧ lead (ch p ||| chF ch (nI s) pp) rf sz gz) : lnC ch rf pp p sz gz (s + 1) = (bitc (nI s) 16, nI s) := ifc_t h
theorem lnC_f {s : Nat} (h : ¬ (¬ hb (nI s) p ∧ bitc (nI s) 16 < (lnC ch rf pp p sz gz s).1 ∧ lead (ch p ||| chF ch (nI s) pp) rf sz gz)) : lnC ch rf pp p sz gz (s + 1) = lnC ch rf pp p sz gz s := ifc_f h
theorem lnC_le : ∀ s, (lnC ch rf pp p sz gz s).1 ≤ 16
  | 0 => by show 7 ≤ 16; decide
  | s + 1 => by
    by_cases h : ¬ hb (nI s) p ∧ bitc (nI s) 16 < (lnC ch rf pp p sz gz s).1 ∧ lead (ch p ||| chF ch (nI s) pp) rf sz gz
    · rw [lnC_t h]; exact bitc_le _ _
    · rw [lnC_f h]; exact lnC_le s
end
set_option maxRecDepth 100000 in
set_option maxHeartbeats 4000000 in
theorem c_X8_keyFor {g : Gl} {I : Ty} {L : TL} {na nt ni m : Nat} {nl : Nat → Nat} (pz : Nat) (pp : Nat) (hpp : pp ≤ 6) (hpe : I 23 1 = nI pp) (hpz : pz < 6) (hxm : 2 * na ≤ m) (hsl : sln nl na ≤ 100) (hok : okSt (I (scell na)) (sln nl na)) (hS : okS (mgC23 I)) (hch : ChOK (I 29)) (hG : okG (I 28)) : Ct g yX8_keyFor cX8_keyFor 6 (some .int) 6 0 0 [.ref (g.1 + 0), .int (nI pz)] I L (RT na nt ni) (NT nl) (NB + m) (PZ na ni m nl (some (.int ((kyC (fun cq k => (chT I nl na pp (va_up (I 24) cq 9) (I 26) (I 27) ((1 : Int32) <<< (nI pz &&& 31)) k).1.1 pz = I 28 pz) (I 28 pz < 0) (ifc (I 28 pz < 0) 41 (frst (fun k => (chT I nl na pp (I 24) (I 26) (I 27) ((1 : Int32) <<< (nI pz &&& 31)) k).1.1 pz = I 28 pz) 41)) 16).1))) (I) L) := by
  refine ct_of (by decide +kernel) (Nat.le_of_ble_eq_true rfl) (fun F hnm hr => ?_)
  clear hnm
  show V g F cX8_keyFor RX8 6 6 0 [(0, .ref (g.1 + 0)), (1, .int (nI pz))] [] I L (RT na nt ni) (NT nl) (NB + m) 0 0
  have hL0 : (ifc (I 28 pz < 0) 41 (frst (fun k => (chT I nl na pp (I 24) (I 26) (I 27) ((1 : Int32) <<< (nI pz &&& 31)) k).1.1 pz = I 28 pz) 41)) ≤ 41 := by by_cases q : (I 28 pz < 0); (rw [ifc_t q]; exact Nat.le_refl _); (rw [ifc_f q]; exact frst_le _ _)
  refine v_aload_n dX8_keyFor_0 rfl 0 rfl ?_
  refine v_get (v := .ref (g.1 + 33)) fa_X8_55 dX8_keyFor_1 rfl (by decide) (ltn rfl) rfl ?_
  refine v_aload_n dX8_keyFor_4 rfl 0 rfl ?_
  refine v_get (v := .ref (g.1 + 23)) fa_X8_51 dX8_keyFor_5 rfl (by decide) (ltn rfl) rfl ?_
  refine v_iconst (v := 1) dX8_keyFor_8 (by decide) ?_
  refine v_iload_n dX8_keyFor_9 rfl 1 rfl ?_
  refine v_ishl dX8_keyFor_10 ?_
  refine v_st (st2 := [.int ((1 : Int32) <<< (nI pz &&& 31)), .ref (g.1 + 23), .ref (g.1 + 33)]) rfl ?_
  refine v_callVv (As := [.ref (g.1 + 23), .int ((1 : Int32) <<< (nI pz &&& 31))]) (rest := []) lk_X8_172 (c_X2_tryFor (I := I) ((1 : Int32) <<< (nI pz &&& 31)) pp hpp hpe) dX8_keyFor_11 rfl (ltn rfl) rfl rfl (Nat.le_of_ble_eq_true rfl) (by decide) ?_
  have ht1 : triS (tryI I ((1 : Int32) <<< (nI pz &&& 31)) pp) I ((1 : Int32) <<< (nI pz &&& 31)) pp (I 24) (I 26) (I 27) := triS_0 (offS_0 I)
  refine v_aload_n dX8_keyFor_14 rfl 0 rfl ?_
  refine v_get (v := .ref (g.1 + 33)) fa_X8_55 dX8_keyFor_15 rfl (by decide) (ltn rfl) rfl ?_
  refine v_iload_n dX8_keyFor_18 rfl 1 rfl ?_
  refine v_bipush (v := 40) dX8_keyFor_19 (by decide) ?_
  refine v_is (y := nI 41 - 1) (by decide) ?_
  refine v_callV (As := [.int (nI pz), .int (nI 41 - 1)]) (rest := []) lk_X8_304 (c_hoursToGoal (I := (tryI I ((1 : Int32) <<< (nI pz &&& 31)) pp)) pz pp hpp (ht1.2.2.1.trans hpe) (by omega) 41 (by omega) hxm hsl (by rw [offS_s ht1.1]; exact hok) (by have q := ht1.2.2.2.2.2.2.2.1; intro p hp; obtain ⟨c, hc, e⟩ := hS p hp; exact ⟨c, hc, (congrFun q p).trans e⟩) (by rw [ht1.2.2.2.2.2.2.2.2.2.1]; exact hch) (by rw [ht1.2.2.2.2.2.2.2.2.1]; exact hG)) dX8_keyFor_21 rfl (ltn rfl) rfl rfl (Nat.le_of_ble_eq_true rfl) (by decide) (Nat.zero_le _) (Nat.zero_le _) (fun v I2 L_ R_ N_ n_ q3 => ?_)
  obtain ⟨rfl, ⟨zq, fq, rfl⟩, rfl, rfl, rfl, rfl⟩ := q3
  refine v_st (st2 := [.int (ifc (I 28 pz < 0) (-5) (frsV (fun k => (chT I nl na pp (I 24) (I 26) (I 27) ((1 : Int32) <<< (nI pz &&& 31)) k).1.1 pz = I 28 pz) 41))]) (by show [Value.int _] = _; simp only [triS_c ht1]; simp only [ht1.2.2.2.2.2.2.2.2.1]) ?_
  have J : V g F cX8_keyFor RX8 6 6 32 [(2, .int (nI (ifc (I 28 pz < 0) 41 (frst (fun k => (chT I nl na pp (I 24) (I 26) (I 27) ((1 : Int32) <<< (nI pz &&& 31)) k).1.1 pz = I 28 pz) 41)))), (0, .ref (g.1 + 0)), (1, .int (nI pz))] [] (va_up (mpH33 (tryI I ((1 : Int32) <<< (nI pz &&& 31)) pp) zq) 42 fq) L_ (RT na na ni) (NT nl) (NB + m) 0 0 := by
    refine v_bipush (v := (-5)) dX8_keyFor_32 (by decide) ?_
    refine v_istore_n (lv2 := [(3, .int (-5)), (2, .int (nI (ifc (I 28 pz < 0) 41 (frst (fun k => (chT I nl na pp (I 24) (I 26) (I 27) ((1 : Int32) <<< (nI pz &&& 31)) k).1.1 pz = I 28 pz) 41)))), (0, .ref (g.1 + 0)), (1, .int (nI pz))]) dX8_keyFor_34 rfl (by decide) rfl ?_
    refine v_iconst (v := 0) dX8_keyFor_35 (by decide) ?_
    refine v_istore (lv2 := [(4, .int 0), (3, .int (-5)), (2, .int (nI (ifc (I 28 pz < 0) 41 (frst (fun k => (chT I nl na pp (I 24) (I 26) (I 27) ((1 : Int32) <<< (nI pz &&& 31)) k).1.1 pz = I 28 pz) 41)))), (0, .ref (g.1 + 0)), (1, .int (nI pz))]) dX8_keyFor_36 (by decide) rfl ?_
    refine v_lv (lv2 := [(4, .int (nI 0)), (3, .int ((kyC (fun cq k => (chT I nl na pp (va_up (I 24) cq 9) (I 26) (I 27) ((1 : Int32) <<< (nI pz &&& 31)) k).1.1 pz = I 28 pz) (I 28 pz < 0) (ifc (I 28 pz < 0) 41 (frst (fun k => (chT I nl na pp (I 24) (I 26) (I 27) ((1 : Int32) <<< (nI pz &&& 31)) k).1.1 pz = I 28 pz) 41)) 0).1)), (2, .int (nI ((kyC (fun cq k => (chT I nl na pp (va_up (I 24) cq 9) (I 26) (I 27) ((1 : Int32) <<< (nI pz &&& 31)) k).1.1 pz = I 28 pz) (I 28 pz < 0) (ifc (I 28 pz < 0) 41 (frst (fun k => (chT I nl na pp (I 24) (I 26) (I 27) ((1 : Int32) <<< (nI pz &&& 31)) k).1.1 pz = I 28 pz) 41)) 0).2))), (0, .ref (g.1 + 0)), (1, .int (nI pz))]) (by rfl) ?_
    refine dloop (P := fun i => ∀ (Iq : Ty), (offS Iq I) → V g F cX8_keyFor RX8 6 6 38 [(4, .int (nI i)), (3, .int ((kyC (fun cq k => (chT I nl na pp (va_up (I 24) cq 9) (I 26) (I 27) ((1 : Int32) <<< (nI pz &&& 31)) k).1.1 pz = I 28 pz) (I 28 pz < 0) (ifc (I 28 pz < 0) 41 (frst (fun k => (chT I nl na pp (I 24) (I 26) (I 27) ((1 : Int32) <<< (nI pz &&& 31)) k).1.1 pz = I 28 pz) 41)) i).1)), (2, .int (nI ((kyC (fun cq k => (chT I nl na pp (va_up (I 24) cq 9) (I 26) (I 27) ((1 : Int32) <<< (nI pz &&& 31)) k).1.1 pz = I 28 pz) (I 28 pz < 0) (ifc (I 28 pz < 0) 41 (frst (fun k => (chT I nl na pp (I 24) (I 26) (I 27) ((1 : Int32) <<< (nI pz &&& 31)) k).1.1 pz = I 28 pz) 41)) i).2))), (0, .ref (g.1 + 0)), (1, .int (nI pz))] [] Iq L_ (RT na na ni) (NT nl) (NB + m) 0 0) 16 ?_ ?_ 0 (Nat.zero_le _) (va_up (mpH33 (tryI I ((1 : Int32) <<< (nI pz &&& 31)) pp) zq) 42 fq) ((offS_up (offS_H ht1.1) (by decide) (by decide)))
    · intro Iq
      intro hinv
      refine v_iload dX8_keyFor_38 0 rfl ?_
      refine v_bipush (v := 16) dX8_keyFor_40 (by decide) ?_
      refine v_icmp_geN (a := 16) (b := 16) (tgt := 101) dX8_keyFor_42 (by decide) rfl rfl (by omega) (by omega) (fun h4 => ?_) (fun h => by exfalso; omega)
      refine v_iload_n dX8_keyFor_101 rfl 1 rfl ?_
      exact v_iret hr dX8_keyFor_102 (⟨congrArg (fun z => some (Value.int z)) (by rfl), ⟨_, scC_off hinv⟩, rfl, ⟨_, rfl⟩, rfl, rfl⟩)
    · intro i hi ih
      intro Iq
      intro hinv
      have hkl := kyC_le (P := (fun cq k => (chT I nl na pp (va_up (I 24) cq 9) (I 26) (I 27) ((1 : Int32) <<< (nI pz &&& 31)) k).1.1 pz = I 28 pz)) (ng := (I 28 pz < 0)) hL0 i
      refine v_iload dX8_keyFor_38 0 rfl ?_
      refine v_bipush (v := 16) dX8_keyFor_40 (by decide) ?_
      refine v_icmp_geN (a := i) (b := 16) (tgt := 101) dX8_keyFor_42 (by decide) rfl rfl (by omega) (by omega) (fun h => by exfalso; omega) (fun h5 => ?_)
      refine v_aload_n dX8_keyFor_45 rfl 3 rfl ?_
      refine v_get (v := .ref (g.1 + 33)) fa_X8_55 dX8_keyFor_46 rfl (by decide) (ltn rfl) rfl ?_
      refine v_aload_n dX8_keyFor_49 rfl 3 rfl ?_
      refine v_get (v := .ref (g.1 + 23)) fa_X8_51 dX8_keyFor_50 rfl (by decide) (ltn rfl) rfl ?_
      refine v_iconst (v := 1) dX8_keyFor_53 (by decide) ?_
      refine v_iload_n dX8_keyFor_54 rfl 4 rfl ?_
      refine v_ishl dX8_keyFor_55 ?_
      refine v_st (st2 := [.int ((1 : Int32) <<< (nI pz &&& 31)), .ref (g.1 + 23), .ref (g.1 + 33)]) rfl ?_
      refine v_callVv (As := [.ref (g.1 + 23), .int ((1 : Int32) <<< (nI pz &&& 31))]) (rest := []) lk_X8_172 (c_X2_tryFor (I := Iq) ((1 : Int32) <<< (nI pz &&& 31)) pp hpp ((congrFun (hinv 23 (by decide)) 1).trans hpe)) dX8_keyFor_56 rfl (ltn rfl) rfl rfl (Nat.le_of_ble_eq_true rfl) (by decide) ?_
      have ht6 : triS (tryI Iq ((1 : Int32) <<< (nI pz &&& 31)) pp) I ((1 : Int32) <<< (nI pz &&& 31)) pp (I 24) (I 26) (I 27) := triS_0 hinv
      refine v_aload_n dX8_keyFor_59 rfl 3 rfl ?_
      refine v_get (v := .ref (g.1 + 33)) fa_X8_55 dX8_keyFor_60 rfl (by decide) (ltn rfl) rfl ?_
      refine v_get (v := .ref (g.1 + 34)) fa_X8_122 dX8_keyFor_63 rfl (by decide) (ltn rfl) rfl ?_
      refine v_iload dX8_keyFor_66 0 rfl ?_
      refine v_bipush (v := 9) dX8_keyFor_68 (by decide) ?_
      refine v_iastore (len := 16) (j := i) dX8_keyFor_70 rfl (ltn rfl) rfl (by decide) rfl (by omega) ?_
      have htg := triS_g (c := i) (v := 9) ht6
      refine v_aload_n dX8_keyFor_71 rfl 3 rfl ?_
      refine v_get (v := .ref (g.1 + 33)) fa_X8_55 dX8_keyFor_72 rfl (by decide) (ltn rfl) rfl ?_
      refine v_iload_n dX8_keyFor_75 rfl 4 rfl ?_
      refine v_iload_n dX8_keyFor_76 rfl 2 rfl ?_
      refine v_iconst (v := 1) dX8_keyFor_77 (by decide) ?_
      refine v_isub dX8_keyFor_78 ?_
      refine v_callV (As := [.int (nI pz), .int (nI ((kyC (fun cq k => (chT I nl na pp (va_up (I 24) cq 9) (I 26) (I 27) ((1 : Int32) <<< (nI pz &&& 31)) k).1.1 pz = I 28 pz) (I 28 pz < 0) (ifc (I 28 pz < 0) 41 (frst (fun k => (chT I nl na pp (I 24) (I 26) (I 27) ((1 : Int32) <<< (nI pz &&& 31)) k).1.1 pz = I 28 pz) 41)) i).2) - 1)]) (rest := []) lk_X8_304 (c_hoursToGoal (I := (wr (tryI Iq ((1 : Int32) <<< (nI pz &&& 31)) pp) 34 i 9)) pz pp hpp (htg.2.2.1.trans hpe) (by omega) ((kyC (fun cq k => (chT I nl na pp (va_up (I 24) cq 9) (I 26) (I 27) ((1 : Int32) <<< (nI pz &&& 31)) k).1.1 pz = I 28 pz) (I 28 pz < 0) (ifc (I 28 pz < 0) 41 (frst (fun k => (chT I nl na pp (I 24) (I 26) (I 27) ((1 : Int32) <<< (nI pz &&& 31)) k).1.1 pz = I 28 pz) 41)) i).2) (by omega) hxm hsl (by rw [offS_s htg.1]; exact hok) (by have q := htg.2.2.2.2.2.2.2.1; intro p hp; obtain ⟨c, hc, e⟩ := hS p hp; exact ⟨c, hc, (congrFun q p).trans e⟩) (by rw [htg.2.2.2.2.2.2.2.2.2.1]; exact hch) (by rw [htg.2.2.2.2.2.2.2.2.1]; exact hG)) dX8_keyFor_79 rfl (ltn rfl) rfl rfl (Nat.le_of_ble_eq_true rfl) (by decide) (Nat.zero_le _) (Nat.zero_le _) (fun v I7 L_ R_ N_ n_ q8 => ?_)
      obtain ⟨rfl, ⟨zq, fq, rfl⟩, rfl, rfl, rfl, rfl⟩ := q8
      refine v_st (st2 := [.int (ifc (I 28 pz < 0) (-5) (frsV (fun k => (chT I nl na pp (va_up (I 24) i 9) (I 26) (I 27) ((1 : Int32) <<< (nI pz &&& 31)) k).1.1 pz = I 28 pz) ((kyC (fun cq k => (chT I nl na pp (va_up (I 24) cq 9) (I 26) (I 27) ((1 : Int32) <<< (nI pz &&& 31)) k).1.1 pz = I 28 pz) (I 28 pz < 0) (ifc (I 28 pz < 0) 41 (frst (fun k => (chT I nl na pp (I 24) (I 26) (I 27) ((1 : Int32) <<< (nI pz &&& 31)) k).1.1 pz = I 28 pz) 41)) i).2)))]) (by show [Value.int _] = _; simp only [triS_c htg]; simp only [htg.2.2.2.2.2.2.2.2.1]) ?_
      by_cases hkk : (I 28 pz < 0) ∨ frst ((fun cq k => (chT I nl na pp (va_up (I 24) cq 9) (I 26) (I 27) ((1 : Int32) <<< (nI pz &&& 31)) k).1.1 pz = I 28 pz) i) (kyC (fun cq k => (chT I nl na pp (va_up (I 24) cq 9) (I 26) (I 27) ((1 : Int32) <<< (nI pz &&& 31)) k).1.1 pz = I 28 pz) (I 28 pz < 0) (ifc (I 28 pz < 0) 41 (frst (fun k => (chT I nl na pp (I 24) (I 26) (I 27) ((1 : Int32) <<< (nI pz &&& 31)) k).1.1 pz = I 28 pz) 41)) i).2 = (kyC (fun cq k => (chT I nl na pp (va_up (I 24) cq 9) (I 26) (I 27) ((1 : Int32) <<< (nI pz &&& 31)) k).1.1 pz = I 28 pz) (I 28 pz < 0) (ifc (I 28 pz < 0) 41 (frst (fun k => (chT I nl na pp (I 24) (I 26) (I 27) ((1 : Int32) <<< (nI pz &&& 31)) k).1.1 pz = I 28 pz) 41)) i).2
      · refine v_is (y := -5) (hv_no hkk) ?_
        refine v_istore (lv2 := [(5, .int (-5)), (4, .int (nI i)), (3, .int ((kyC (fun cq k => (chT I nl na pp (va_up (I 24) cq 9) (I 26) (I 27) ((1 : Int32) <<< (nI pz &&& 31)) k).1.1 pz = I 28 pz) (I 28 pz < 0) (ifc (I 28 pz < 0) 41 (frst (fun k => (chT I nl na pp (I 24) (I 26) (I 27) ((1 : Int32) <<< (nI pz &&& 31)) k).1.1 pz = I 28 pz) 41)) i).1)), (2, .int (nI ((kyC (fun cq k => (chT I nl na pp (va_up (I 24) cq 9) (I 26) (I 27) ((1 : Int32) <<< (nI pz &&& 31)) k).1.1 pz = I 28 pz) (I 28 pz < 0) (ifc (I 28 pz < 0) 41 (frst (fun k => (chT I nl na pp (I 24) (I 26) (I 27) ((1 : Int32) <<< (nI pz &&& 31)) k).1.1 pz = I 28 pz) 41)) i).2))), (0, .ref (g.1 + 0)), (1, .int (nI pz))]) dX8_keyFor_82 (by decide) rfl ?_
        refine v_iload dX8_keyFor_84 0 rfl ?_
        refine v_if_lt (tgt := 95) dX8_keyFor_86 (by decide) (fun _ => ?_) (fun h9 => by first | exact absurd h9 (by decide) | exact absurd (by decide) h9)
        refine v_inc (v := nI (i + 1)) (lv2 := [(4, .int (nI (i + 1))), (5, .int (-5)), (3, .int ((kyC (fun cq k => (chT I nl na pp (va_up (I 24) cq 9) (I 26) (I 27) ((1 : Int32) <<< (nI pz &&& 31)) k).1.1 pz = I 28 pz) (I 28 pz < 0) (ifc (I 28 pz < 0) 41 (frst (fun k => (chT I nl na pp (I 24) (I 26) (I 27) ((1 : Int32) <<< (nI pz &&& 31)) k).1.1 pz = I 28 pz) 41)) i).1)), (2, .int (nI ((kyC (fun cq k => (chT I nl na pp (va_up (I 24) cq 9) (I 26) (I 27) ((1 : Int32) <<< (nI pz &&& 31)) k).1.1 pz = I 28 pz) (I 28 pz < 0) (ifc (I 28 pz < 0) 41 (frst (fun k => (chT I nl na pp (I 24) (I 26) (I 27) ((1 : Int32) <<< (nI pz &&& 31)) k).1.1 pz = I 28 pz) 41)) i).2))), (0, .ref (g.1 + 0)), (1, .int (nI pz))]) dX8_keyFor_95 1 rfl (nx_inc rfl) (by decide) rfl ?_
        refine v_goto (tgt := 38) dX8_keyFor_98 (by decide) ?_
        refine v_sub (lv2 := [(4, .int (nI (i + 1))), (3, .int ((kyC (fun cq k => (chT I nl na pp (va_up (I 24) cq 9) (I 26) (I 27) ((1 : Int32) <<< (nI pz &&& 31)) k).1.1 pz = I 28 pz) (I 28 pz < 0) (ifc (I 28 pz < 0) 41 (frst (fun k => (chT I nl na pp (I 24) (I 26) (I 27) ((1 : Int32) <<< (nI pz &&& 31)) k).1.1 pz = I 28 pz) 41)) i).1)), (2, .int (nI ((kyC (fun cq k => (chT I nl na pp (va_up (I 24) cq 9) (I 26) (I 27) ((1 : Int32) <<< (nI pz &&& 31)) k).1.1 pz = I 28 pz) (I 28 pz < 0) (ifc (I 28 pz < 0) 41 (frst (fun k => (chT I nl na pp (I 24) (I 26) (I 27) ((1 : Int32) <<< (nI pz &&& 31)) k).1.1 pz = I 28 pz) 41)) i).2))), (0, .ref (g.1 + 0)), (1, .int (nI pz))]) [0, 2, 3, 4, 5] rfl ?_
        refine v_lv (lv2 := [(4, .int (nI (i + 1))), (3, .int ((kyC (fun cq k => (chT I nl na pp (va_up (I 24) cq 9) (I 26) (I 27) ((1 : Int32) <<< (nI pz &&& 31)) k).1.1 pz = I 28 pz) (I 28 pz < 0) (ifc (I 28 pz < 0) 41 (frst (fun k => (chT I nl na pp (I 24) (I 26) (I 27) ((1 : Int32) <<< (nI pz &&& 31)) k).1.1 pz = I 28 pz) 41)) (i + 1)).1)), (2, .int (nI ((kyC (fun cq k => (chT I nl na pp (va_up (I 24) cq 9) (I 26) (I 27) ((1 : Int32) <<< (nI pz &&& 31)) k).1.1 pz = I 28 pz) (I 28 pz < 0) (ifc (I 28 pz < 0) 41 (frst (fun k => (chT I nl na pp (I 24) (I 26) (I 27) ((1 : Int32) <<< (nI pz &&& 31)) k).1.1 pz = I 28 pz) 41)) (i + 1)).2))), (0, .ref (g.1 + 0)), (1, .int (nI pz))]) (by rw [kyC_t hkk]) ?_
        exact ih _ ((offS_up (offS_H htg.1) (by decide) (by decide)))
      · refine v_is (y := nI (frst ((fun cq k => (chT I nl na pp (va_up (I 24) cq 9) (I 26) (I 27) ((1 : Int32) <<< (nI pz &&& 31)) k).1.1 pz = I 28 pz) i) (kyC (fun cq k => (chT I nl na pp (va_up (I 24) cq 9) (I 26) (I 27) ((1 : Int32) <<< (nI pz &&& 31)) k).1.1 pz = I 28 pz) (I 28 pz < 0) (ifc (I 28 pz < 0) 41 (frst (fun k => (chT I nl na pp (I 24) (I 26) (I 27) ((1 : Int32) <<< (nI pz &&& 31)) k).1.1 pz = I 28 pz) 41)) i).2)) (hv_yes hkk) ?_
        have hfl := frst_le ((fun cq k => (chT I nl na pp (va_up (I 24) cq 9) (I 26) (I 27) ((1 : Int32) <<< (nI pz &&& 31)) k).1.1 pz = I 28 pz) i) (kyC (fun cq k => (chT I nl na pp (va_up (I 24) cq 9) (I 26) (I 27) ((1 : Int32) <<< (nI pz &&& 31)) k).1.1 pz = I 28 pz) (I 28 pz < 0) (ifc (I 28 pz < 0) 41 (frst (fun k => (chT I nl na pp (I 24) (I 26) (I 27) ((1 : Int32) <<< (nI pz &&& 31)) k).1.1 pz = I 28 pz) 41)) i).2
        refine v_istore (lv2 := [(5, .int (nI (frst ((fun cq k => (chT I nl na pp (va_up (I 24) cq 9) (I 26) (I 27) ((1 : Int32) <<< (nI pz &&& 31)) k).1.1 pz = I 28 pz) i) (kyC (fun cq k => (chT I nl na pp (va_up (I 24) cq 9) (I 26) (I 27) ((1 : Int32) <<< (nI pz &&& 31)) k).1.1 pz = I 28 pz) (I 28 pz < 0) (ifc (I 28 pz < 0) 41 (frst (fun k => (chT I nl na pp (I 24) (I 26) (I 27) ((1 : Int32) <<< (nI pz &&& 31)) k).1.1 pz = I 28 pz) 41)) i).2))), (4, .int (nI i)), (3, .int ((kyC (fun cq k => (chT I nl na pp (va_up (I 24) cq 9) (I 26) (I 27) ((1 : Int32) <<< (nI pz &&& 31)) k).1.1 pz = I 28 pz) (I 28 pz < 0) (ifc (I 28 pz < 0) 41 (frst (fun k => (chT I nl na pp (I 24) (I 26) (I 27) ((1 : Int32) <<< (nI pz &&& 31)) k).1.1 pz = I 28 pz) 41)) i).1)), (2, .int (nI ((kyC (fun cq k => (chT I nl na pp (va_up (I 24) cq 9) (I 26) (I 27) ((1 : Int32) <<< (nI pz &&& 31)) k).1.1 pz = I 28 pz) (I 28 pz < 0) (ifc (I 28 pz < 0) 41 (frst (fun k => (chT I nl na pp (I 24) (I 26) (I 27) ((1 : Int32) <<< (nI pz &&& 31)) k).1.1 pz = I 28 pz) 41)) i).2))), (0, .ref (g.1 + 0)), (1, .int (nI pz))]) dX8_keyFor_82 (by decide) rfl ?_
        refine v_iload dX8_keyFor_84 0 rfl ?_
        refine v_if_ltN (a := (frst ((fun cq k => (chT I nl na pp (va_up (I 24) cq 9) (I 26) (I 27) ((1 : Int32) <<< (nI pz &&& 31)) k).1.1 pz = I 28 pz) i) (kyC (fun cq k => (chT I nl na pp (va_up (I 24) cq 9) (I 26) (I 27) ((1 : Int32) <<< (nI pz &&& 31)) k).1.1 pz = I 28 pz) (I 28 pz < 0) (ifc (I 28 pz < 0) 41 (frst (fun k => (chT I nl na pp (I 24) (I 26) (I 27) ((1 : Int32) <<< (nI pz &&& 31)) k).1.1 pz = I 28 pz) 41)) i).2)) (tgt := 95) dX8_keyFor_86 (by decide) rfl (by omega) (fun h => by exfalso; omega) (fun h10 => ?_)
        refine v_iload dX8_keyFor_89 0 rfl ?_
        refine v_istore_n (lv2 := [(2, .int (nI (frst ((fun cq k => (chT I nl na pp (va_up (I 24) cq 9) (I 26) (I 27) ((1 : Int32) <<< (nI pz &&& 31)) k).1.1 pz = I 28 pz) i) (kyC (fun cq k => (chT I nl na pp (va_up (I 24) cq 9) (I 26) (I 27) ((1 : Int32) <<< (nI pz &&& 31)) k).1.1 pz = I 28 pz) (I 28 pz < 0) (ifc (I 28 pz < 0) 41 (frst (fun k => (chT I nl na pp (I 24) (I 26) (I 27) ((1 : Int32) <<< (nI pz &&& 31)) k).1.1 pz = I 28 pz) 41)) i).2))), (5, .int (nI (frst ((fun cq k => (chT I nl na pp (va_up (I 24) cq 9) (I 26) (I 27) ((1 : Int32) <<< (nI pz &&& 31)) k).1.1 pz = I 28 pz) i) (kyC (fun cq k => (chT I nl na pp (va_up (I 24) cq 9) (I 26) (I 27) ((1 : Int32) <<< (nI pz &&& 31)) k).1.1 pz = I 28 pz) (I 28 pz < 0) (ifc (I 28 pz < 0) 41 (frst (fun k => (chT I nl na pp (I 24) (I 26) (I 27) ((1 : Int32) <<< (nI pz &&& 31)) k).1.1 pz = I 28 pz) 41)) i).2))), (4, .int (nI i)), (3, .int ((kyC (fun cq k => (chT I nl na pp (va_up (I 24) cq 9) (I 26) (I 27) ((1 : Int32) <<< (nI pz &&& 31)) k).1.1 pz = I 28 pz) (I 28 pz < 0) (ifc (I 28 pz < 0) 41 (frst (fun k => (chT I nl na pp (I 24) (I 26) (I 27) ((1 : Int32) <<< (nI pz &&& 31)) k).1.1 pz = I 28 pz) 41)) i).1)), (0, .ref (g.1 + 0)), (1, .int (nI pz))]) dX8_keyFor_91 rfl (by decide) rfl ?_
        refine v_iload dX8_keyFor_92 2 rfl ?_
        refine v_istore_n (lv2 := [(3, .int (nI i)), (2, .int (nI (frst ((fun cq k => (chT I nl na pp (va_up (I 24) cq 9) (I 26) (I 27) ((1 : Int32) <<< (nI pz &&& 31)) k).1.1 pz = I 28 pz) i) (kyC (fun cq k => (chT I nl na pp (va_up (I 24) cq 9) (I 26) (I 27) ((1 : Int32) <<< (nI pz &&& 31)) k).1.1 pz = I 28 pz) (I 28 pz < 0) (ifc (I 28 pz < 0) 41 (frst (fun k => (chT I nl na pp (I 24) (I 26) (I 27) ((1 : Int32) <<< (nI pz &&& 31)) k).1.1 pz = I 28 pz) 41)) i).2))), (5, .int (nI (frst ((fun cq k => (chT I nl na pp (va_up (I 24) cq 9) (I 26) (I 27) ((1 : Int32) <<< (nI pz &&& 31)) k).1.1 pz = I 28 pz) i) (kyC (fun cq k => (chT I nl na pp (va_up (I 24) cq 9) (I 26) (I 27) ((1 : Int32) <<< (nI pz &&& 31)) k).1.1 pz = I 28 pz) (I 28 pz < 0) (ifc (I 28 pz < 0) 41 (frst (fun k => (chT I nl na pp (I 24) (I 26) (I 27) ((1 : Int32) <<< (nI pz &&& 31)) k).1.1 pz = I 28 pz) 41)) i).2))), (4, .int (nI i)), (0, .ref (g.1 + 0)), (1, .int (nI pz))]) dX8_keyFor_94 rfl (by decide) rfl ?_
        refine v_inc (v := nI (i + 1)) (lv2 := [(4, .int (nI (i + 1))), (3, .int (nI i)), (2, .int (nI (frst ((fun cq k => (chT I nl na pp (va_up (I 24) cq 9) (I 26) (I 27) ((1 : Int32) <<< (nI pz &&& 31)) k).1.1 pz = I 28 pz) i) (kyC (fun cq k => (chT I nl na pp (va_up (I 24) cq 9) (I 26) (I 27) ((1 : Int32) <<< (nI pz &&& 31)) k).1.1 pz = I 28 pz) (I 28 pz < 0) (ifc (I 28 pz < 0) 41 (frst (fun k => (chT I nl na pp (I 24) (I 26) (I 27) ((1 : Int32) <<< (nI pz &&& 31)) k).1.1 pz = I 28 pz) 41)) i).2))), (5, .int (nI (frst ((fun cq k => (chT I nl na pp (va_up (I 24) cq 9) (I 26) (I 27) ((1 : Int32) <<< (nI pz &&& 31)) k).1.1 pz = I 28 pz) i) (kyC (fun cq k => (chT I nl na pp (va_up (I 24) cq 9) (I 26) (I 27) ((1 : Int32) <<< (nI pz &&& 31)) k).1.1 pz = I 28 pz) (I 28 pz < 0) (ifc (I 28 pz < 0) 41 (frst (fun k => (chT I nl na pp (I 24) (I 26) (I 27) ((1 : Int32) <<< (nI pz &&& 31)) k).1.1 pz = I 28 pz) 41)) i).2))), (0, .ref (g.1 + 0)), (1, .int (nI pz))]) dX8_keyFor_95 3 rfl (nx_inc rfl) (by decide) rfl ?_
        refine v_goto (tgt := 38) dX8_keyFor_98 (by decide) ?_
        refine v_sub (lv2 := [(4, .int (nI (i + 1))), (3, .int (nI i)), (2, .int (nI (frst ((fun cq k => (chT I nl na pp (va_up (I 24) cq 9) (I 26) (I 27) ((1 : Int32) <<< (nI pz &&& 31)) k).1.1 pz = I 28 pz) i) (kyC (fun cq k => (chT I nl na pp (va_up (I 24) cq 9) (I 26) (I 27) ((1 : Int32) <<< (nI pz &&& 31)) k).1.1 pz = I 28 pz) (I 28 pz < 0) (ifc (I 28 pz < 0) 41 (frst (fun k => (chT I nl na pp (I 24) (I 26) (I 27) ((1 : Int32) <<< (nI pz &&& 31)) k).1.1 pz = I 28 pz) 41)) i).2))), (0, .ref (g.1 + 0)), (1, .int (nI pz))]) [0, 1, 2, 4, 5] rfl ?_
        refine v_lv (lv2 := [(4, .int (nI (i + 1))), (3, .int ((kyC (fun cq k => (chT I nl na pp (va_up (I 24) cq 9) (I 26) (I 27) ((1 : Int32) <<< (nI pz &&& 31)) k).1.1 pz = I 28 pz) (I 28 pz < 0) (ifc (I 28 pz < 0) 41 (frst (fun k => (chT I nl na pp (I 24) (I 26) (I 27) ((1 : Int32) <<< (nI pz &&& 31)) k).1.1 pz = I 28 pz) 41)) (i + 1)).1)), (2, .int (nI ((kyC (fun cq k => (chT I nl na pp (va_up (I 24) cq 9) (I 26) (I 27) ((1 : Int32) <<< (nI pz &&& 31)) k).1.1 pz = I 28 pz) (I 28 pz < 0) (ifc (I 28 pz < 0) 41 (frst (fun k => (chT I nl na pp (I 24) (I 26) (I 27) ((1 : Int32) <<< (nI pz &&& 31)) k).1.1 pz = I 28 pz) 41)) (i + 1)).2))), (0, .ref (g.1 + 0)), (1, .int (nI pz))]) (by rw [kyC_f hkk]) ?_
        exact ih _ ((offS_up (offS_H htg.1) (by decide) (by decide)))
  by_cases hg : (I 28 pz < 0)
  · refine v_is (y := -5) (ifc_t hg) ?_
    refine v_istore_n (lv2 := [(2, .int (-5)), (0, .ref (g.1 + 0)), (1, .int (nI pz))]) dX8_keyFor_24 rfl (by decide) rfl ?_
    refine v_iload_n dX8_keyFor_25 rfl 0 rfl ?_
    refine v_if_ge (tgt := 32) dX8_keyFor_26 (by decide) (fun h11 => by first | exact absurd h11 (by decide) | exact absurd (by decide) h11) (fun _ => ?_)
    refine v_bipush (v := 41) dX8_keyFor_29 (by decide) ?_
    refine v_istore_n (lv2 := [(2, .int 41), (0, .ref (g.1 + 0)), (1, .int (nI pz))]) dX8_keyFor_31 rfl (by decide) rfl ?_
    refine v_lv (lv2 := [(2, .int (nI (ifc (I 28 pz < 0) 41 (frst (fun k => (chT I nl na pp (I 24) (I 26) (I 27) ((1 : Int32) <<< (nI pz &&& 31)) k).1.1 pz = I 28 pz) 41)))), (0, .ref (g.1 + 0)), (1, .int (nI pz))]) (by rw [ifc_t hg]; rfl) ?_
    exact J
  · by_cases hf : frst (fun k => (chT I nl na pp (I 24) (I 26) (I 27) ((1 : Int32) <<< (nI pz &&& 31)) k).1.1 pz = I 28 pz) 41 = 41
    · refine v_is (y := -5) ((ifc_f hg).trans (ifc_t hf)) ?_
      refine v_istore_n (lv2 := [(2, .int (-5)), (0, .ref (g.1 + 0)), (1, .int (nI pz))]) dX8_keyFor_24 rfl (by decide) rfl ?_
      refine v_iload_n dX8_keyFor_25 rfl 0 rfl ?_
      refine v_if_ge (tgt := 32) dX8_keyFor_26 (by decide) (fun h12 => by first | exact absurd h12 (by decide) | exact absurd (by decide) h12) (fun _ => ?_)
      refine v_bipush (v := 41) dX8_keyFor_29 (by decide) ?_
      refine v_istore_n (lv2 := [(2, .int 41), (0, .ref (g.1 + 0)), (1, .int (nI pz))]) dX8_keyFor_31 rfl (by decide) rfl ?_
      refine v_lv (lv2 := [(2, .int (nI (ifc (I 28 pz < 0) 41 (frst (fun k => (chT I nl na pp (I 24) (I 26) (I 27) ((1 : Int32) <<< (nI pz &&& 31)) k).1.1 pz = I 28 pz) 41)))), (0, .ref (g.1 + 0)), (1, .int (nI pz))]) (by rw [ifc_f hg, hf]; rfl) ?_
      exact J
    · have hf41 := frst_le (fun k => (chT I nl na pp (I 24) (I 26) (I 27) ((1 : Int32) <<< (nI pz &&& 31)) k).1.1 pz = I 28 pz) 41
      refine v_is (y := nI (frst (fun k => (chT I nl na pp (I 24) (I 26) (I 27) ((1 : Int32) <<< (nI pz &&& 31)) k).1.1 pz = I 28 pz) 41)) ((ifc_f hg).trans (ifc_f hf)) ?_
      refine v_istore_n (lv2 := [(2, .int (nI (frst (fun k => (chT I nl na pp (I 24) (I 26) (I 27) ((1 : Int32) <<< (nI pz &&& 31)) k).1.1 pz = I 28 pz) 41))), (0, .ref (g.1 + 0)), (1, .int (nI pz))]) dX8_keyFor_24 rfl (by decide) rfl ?_
      refine v_iload_n dX8_keyFor_25 rfl 0 rfl ?_
      refine v_if_geN (a := (frst (fun k => (chT I nl na pp (I 24) (I 26) (I 27) ((1 : Int32) <<< (nI pz &&& 31)) k).1.1 pz = I 28 pz) 41)) (tgt := 32) dX8_keyFor_26 (by decide) rfl (by omega) (fun h13 => ?_) (fun h => by exfalso; omega)
      refine v_lv (lv2 := [(2, .int (nI (ifc (I 28 pz < 0) 41 (frst (fun k => (chT I nl na pp (I 24) (I 26) (I 27) ((1 : Int32) <<< (nI pz &&& 31)) k).1.1 pz = I 28 pz) 41)))), (0, .ref (g.1 + 0)), (1, .int (nI pz))]) (by rw [ifc_f hg]) ?_
      exact J
set_option maxRecDepth 100000 in
set_option maxHeartbeats 4000000 in
theorem c_X8_lentFor {g : Gl} {I : Ty} {L : TL} {na nt ni m : Nat} {nl : Nat → Nat} (pz : Nat) (pp : Nat) (hpp : pp ≤ 6) (hpe : I 23 1 = nI pp) (hpz : pz < 6) (hxm : 2 * na ≤ m) (hsl : sln nl na ≤ 100) (hok : okSt (I (scell na)) (sln nl na)) (hS : okS (mgC23 I)) (hch : ChOK (I 29)) (hG : okG (I 28)) : Ct g yX8_lentFor cX8_lentFor 9 (some .int) 4 0 0 [.ref (g.1 + 0), .int (nI pz)] I L (RT na nt ni) (NT nl) (NB + m) (PZ na ni m nl (some (.int (ifc (I 28 pz < 0) (-5) (lnC (I 29) (refv (fun q => (Wl (I 24) (I 25) (I 26) (I 31) pp (nsW I nl na) (I 23 9) (I 27) (I 29) pz q)) 16) pp pz (tn (I 27 pz)) (tn (I 28 pz)) (2 ^ pp)).2))) (I) L) := by
  refine ct_of (by decide +kernel) (Nat.le_of_ble_eq_true rfl) (fun F hnm hr => ?_)
  clear hnm
  show V g F cX8_lentFor RX8 9 4 0 [(0, .ref (g.1 + 0)), (1, .int (nI pz))] [] I L (RT na nt ni) (NT nl) (NB + m) 0 0
  obtain ⟨sz, hsz, hes⟩ := hS pz hpz
  have hes : I 27 pz = nI sz := hes
  have hp64 := pow_pp pp hpp
  have htz : tn (I 27 pz) = sz := by rw [hes, tn_nI (by omega)]
  refine v_aload_n dX8_lentFor_0 rfl 0 rfl ?_
  refine v_get (v := .ref (g.1 + 23)) fa_X8_51 dX8_lentFor_1 rfl (by decide) (ltn rfl) rfl ?_
  refine v_get (v := .ref (g.1 + 28)) fa_X8_87 dX8_lentFor_4 rfl (by decide) (ltn rfl) rfl ?_
  refine v_iload_n dX8_lentFor_7 rfl 1 rfl ?_
  refine v_iaload (len := 6) (j := pz) dX8_lentFor_8 rfl (ltn rfl) rfl (by decide) rfl (by omega) ?_
  refine v_istore_n (lv2 := [(2, .int (I 28 pz)), (0, .ref (g.1 + 0)), (1, .int (nI pz))]) dX8_lentFor_9 rfl (by decide) rfl ?_
  refine v_iload_n dX8_lentFor_10 rfl 0 rfl ?_
  refine v_if_ge (tgt := 17) dX8_lentFor_11 (by decide) (fun h2 => ?_) (fun h2 => ?_)
  · have hgn := Int32.not_lt.mpr h2
    obtain ⟨gz, hgz, heg⟩ := (hG pz hpz).resolve_left hgn
    have htg : tn (I 28 pz) = gz := by rw [heg, tn_nI (by omega)]
    refine v_lv (lv2 := [(2, .int (nI gz)), (0, .ref (g.1 + 0)), (1, .int (nI pz))]) (by rw [heg]) ?_
    refine v_aload_n dX8_lentFor_17 rfl 1 rfl ?_
    refine v_get (v := .ref (g.1 + 23)) fa_X8_51 dX8_lentFor_18 rfl (by decide) (ltn rfl) rfl ?_
    refine v_iload_n dX8_lentFor_21 rfl 2 rfl ?_
    refine v_callVfi (As := [.int (nI pz)]) (rest := []) lk_X8_103 (c_refusals (I := I) pz pp hpp hpe (by omega) hxm hsl hok hch) dX8_lentFor_22 rfl (ltn rfl) rfl rfl (Nat.le_of_ble_eq_true rfl) (by decide) (fun fq3 => ?_)
    refine v_istore_n (lv2 := [(3, .int (refv (fun q => (Wl (I 24) (I 25) (I 26) (I 31) pp (nsW I nl na) (I 23 9) (I 27) (I 29) pz q)) 16)), (2, .int (nI gz)), (0, .ref (g.1 + 0)), (1, .int (nI pz))]) dX8_lentFor_25 rfl (by decide) rfl ?_
    refine v_bipush (v := 7) dX8_lentFor_26 (by decide) ?_
    refine v_istore (lv2 := [(4, .int 7), (3, .int (refv (fun q => (Wl (I 24) (I 25) (I 26) (I 31) pp (nsW I nl na) (I 23 9) (I 27) (I 29) pz q)) 16)), (2, .int (nI gz)), (0, .ref (g.1 + 0)), (1, .int (nI pz))]) dX8_lentFor_28 (by decide) rfl ?_
    refine v_bipush (v := (-5)) dX8_lentFor_30 (by decide) ?_
    refine v_istore (lv2 := [(5, .int (-5)), (4, .int 7), (3, .int (refv (fun q => (Wl (I 24) (I 25) (I 26) (I 31) pp (nsW I nl na) (I 23 9) (I 27) (I 29) pz q)) 16)), (2, .int (nI gz)), (0, .ref (g.1 + 0)), (1, .int (nI pz))]) dX8_lentFor_32 (by decide) rfl ?_
    refine v_iconst (v := 0) dX8_lentFor_34 (by decide) ?_
    refine v_istore (lv2 := [(6, .int 0), (5, .int (-5)), (4, .int 7), (3, .int (refv (fun q => (Wl (I 24) (I 25) (I 26) (I 31) pp (nsW I nl na) (I 23 9) (I 27) (I 29) pz q)) 16)), (2, .int (nI gz)), (0, .ref (g.1 + 0)), (1, .int (nI pz))]) dX8_lentFor_35 (by decide) rfl ?_
    refine v_lv (lv2 := [(6, .int (nI 0)), (5, .int ((lnC (I 29) (refv (fun q => (Wl (I 24) (I 25) (I 26) (I 31) pp (nsW I nl na) (I 23 9) (I 27) (I 29) pz q)) 16) pp pz sz gz 0).2)), (4, .int (nI ((lnC (I 29) (refv (fun q => (Wl (I 24) (I 25) (I 26) (I 31) pp (nsW I nl na) (I 23 9) (I 27) (I 29) pz q)) 16) pp pz sz gz 0).1))), (3, .int (refv (fun q => (Wl (I 24) (I 25) (I 26) (I 31) pp (nsW I nl na) (I 23 9) (I 27) (I 29) pz q)) 16)), (2, .int (nI gz)), (0, .ref (g.1 + 0)), (1, .int (nI pz))]) (by rfl) ?_
    refine dloop (P := fun i => V g F cX8_lentFor RX8 9 4 37 [(6, .int (nI i)), (5, .int ((lnC (I 29) (refv (fun q => (Wl (I 24) (I 25) (I 26) (I 31) pp (nsW I nl na) (I 23 9) (I 27) (I 29) pz q)) 16) pp pz sz gz i).2)), (4, .int (nI ((lnC (I 29) (refv (fun q => (Wl (I 24) (I 25) (I 26) (I 31) pp (nsW I nl na) (I 23 9) (I 27) (I 29) pz q)) 16) pp pz sz gz i).1))), (3, .int (refv (fun q => (Wl (I 24) (I 25) (I 26) (I 31) pp (nsW I nl na) (I 23 9) (I 27) (I 29) pz q)) 16)), (2, .int (nI gz)), (0, .ref (g.1 + 0)), (1, .int (nI pz))] [] (va_up I 32 fq3) L (RT na nt ni) (NT nl) (NB + m) 0 0) (2 ^ pp) ?_ ?_ 0 (Nat.zero_le _)
    · refine v_iload dX8_lentFor_37 0 rfl ?_
      refine v_iconst (v := 1) dX8_lentFor_39 (by decide) ?_
      refine v_aload_n dX8_lentFor_40 rfl 5 rfl ?_
      refine v_get (v := .ref (g.1 + 23)) fa_X8_51 dX8_lentFor_41 rfl (by decide) (ltn rfl) rfl ?_
      refine v_get (v := .int ((va_up I 32 fq3) 23 1)) fa_X8_66 dX8_lentFor_44 rfl (by decide) (ltn rfl) rfl ?_
      refine v_is (y := nI pp) (by exact hpe) ?_
      refine v_ishl dX8_lentFor_47 ?_
      refine v_is (shl_pp pp hpp) ?_
      refine v_icmp_geN (a := (2 ^ pp)) (b := (2 ^ pp)) (tgt := 128) dX8_lentFor_48 (by decide) rfl rfl (by omega) (by omega) (fun h4 => ?_) (fun h => by exfalso; omega)
      refine v_iload dX8_lentFor_128 1 rfl ?_
      exact v_iret hr dX8_lentFor_130 (⟨congrArg (fun z => some (Value.int z)) (by rw [ifc_f hgn, htz, htg]), ⟨_, scC_32 _ _⟩, rfl, ⟨_, rfl⟩, rfl, rfl⟩)
    · intro i hi ih
      have hb1 := bitc_le (nI i) 16
      have hb2 := lnC_le (ch := I 29) (rf := (refv (fun q => (Wl (I 24) (I 25) (I 26) (I 31) pp (nsW I nl na) (I 23 9) (I 27) (I 29) pz q)) 16)) (pp := pp) (p := pz) (sz := sz) (gz := gz) i
      refine v_iload dX8_lentFor_37 0 rfl ?_
      refine v_iconst (v := 1) dX8_lentFor_39 (by decide) ?_
      refine v_aload_n dX8_lentFor_40 rfl 5 rfl ?_
      refine v_get (v := .ref (g.1 + 23)) fa_X8_51 dX8_lentFor_41 rfl (by decide) (ltn rfl) rfl ?_
      refine v_get (v := .int ((va_up I 32 fq3) 23 1)) fa_X8_66 dX8_lentFor_44 rfl (by decide) (ltn rfl) rfl ?_
      refine v_is (y := nI pp) (by exact hpe) ?_
      refine v_ishl dX8_lentFor_47 ?_
      refine v_is (shl_pp pp hpp) ?_
      refine v_icmp_geN (a := i) (b := (2 ^ pp)) (tgt := 128) dX8_lentFor_48 (by decide) rfl rfl (by omega) (by omega) (fun h => by exfalso; omega) (fun h5 => ?_)
      refine v_iload dX8_lentFor_51 0 rfl ?_
      refine v_callSi (As := [.int (nI i)]) (rest := []) lk_X8_202 (c_bitCount (xz := (nI i)) ((inr_of_nI (by omega)).mpr (by omega))) dX8_lentFor_53 rfl rfl (Nat.le_of_ble_eq_true rfl) (by decide) ?_
      refine v_istore (lv2 := [(7, .int (nI (bitc (nI i) 16))), (6, .int (nI i)), (5, .int ((lnC (I 29) (refv (fun q => (Wl (I 24) (I 25) (I 26) (I 31) pp (nsW I nl na) (I 23 9) (I 27) (I 29) pz q)) 16) pp pz sz gz i).2)), (4, .int (nI ((lnC (I 29) (refv (fun q => (Wl (I 24) (I 25) (I 26) (I 31) pp (nsW I nl na) (I 23 9) (I 27) (I 29) pz q)) 16) pp pz sz gz i).1))), (3, .int (refv (fun q => (Wl (I 24) (I 25) (I 26) (I 31) pp (nsW I nl na) (I 23 9) (I 27) (I 29) pz q)) 16)), (2, .int (nI gz)), (0, .ref (g.1 + 0)), (1, .int (nI pz))]) dX8_lentFor_56 (by decide) rfl ?_
      refine v_iload dX8_lentFor_58 1 rfl ?_
      refine v_iload_n dX8_lentFor_60 rfl 7 rfl ?_
      refine v_ishr dX8_lentFor_61 ?_
      refine v_iconst (v := 1) dX8_lentFor_62 (by decide) ?_
      refine v_iand dX8_lentFor_63 ?_
      refine v_if_ne (tgt := 122) dX8_lentFor_64 (by decide) (fun h7 => ?_) (fun h7 => ?_)
      · refine v_inc (v := nI (i + 1)) (lv2 := [(6, .int (nI (i + 1))), (7, .int (nI (bitc (nI i) 16))), (5, .int ((lnC (I 29) (refv (fun q => (Wl (I 24) (I 25) (I 26) (I 31) pp (nsW I nl na) (I 23 9) (I 27) (I 29) pz q)) 16) pp pz sz gz i).2)), (4, .int (nI ((lnC (I 29) (refv (fun q => (Wl (I 24) (I 25) (I 26) (I 31) pp (nsW I nl na) (I 23 9) (I 27) (I 29) pz q)) 16) pp pz sz gz i).1))), (3, .int (refv (fun q => (Wl (I 24) (I 25) (I 26) (I 31) pp (nsW I nl na) (I 23 9) (I 27) (I 29) pz q)) 16)), (2, .int (nI gz)), (0, .ref (g.1 + 0)), (1, .int (nI pz))]) dX8_lentFor_122 1 rfl (nx_inc rfl) (by decide) rfl ?_
        refine v_goto (tgt := 37) dX8_lentFor_125 (by decide) ?_
        refine v_sub (lv2 := [(6, .int (nI (i + 1))), (5, .int ((lnC (I 29) (refv (fun q => (Wl (I 24) (I 25) (I 26) (I 31) pp (nsW I nl na) (I 23 9) (I 27) (I 29) pz q)) 16) pp pz sz gz i).2)), (4, .int (nI ((lnC (I 29) (refv (fun q => (Wl (I 24) (I 25) (I 26) (I 31) pp (nsW I nl na) (I 23 9) (I 27) (I 29) pz q)) 16) pp pz sz gz i).1))), (3, .int (refv (fun q => (Wl (I 24) (I 25) (I 26) (I 31) pp (nsW I nl na) (I 23 9) (I 27) (I 29) pz q)) 16)), (2, .int (nI gz)), (0, .ref (g.1 + 0)), (1, .int (nI pz))]) [0, 2, 3, 4, 5, 6, 7] rfl ?_
        refine v_lv (lv2 := [(6, .int (nI (i + 1))), (5, .int ((lnC (I 29) (refv (fun q => (Wl (I 24) (I 25) (I 26) (I 31) pp (nsW I nl na) (I 23 9) (I 27) (I 29) pz q)) 16) pp pz sz gz (i + 1)).2)), (4, .int (nI ((lnC (I 29) (refv (fun q => (Wl (I 24) (I 25) (I 26) (I 31) pp (nsW I nl na) (I 23 9) (I 27) (I 29) pz q)) 16) pp pz sz gz (i + 1)).1))), (3, .int (refv (fun q => (Wl (I 24) (I 25) (I 26) (I 31) pp (nsW I nl na) (I 23 9) (I 27) (I 29) pz q)) 16)), (2, .int (nI gz)), (0, .ref (g.1 + 0)), (1, .int (nI pz))]) (by rw [lnC_f (fun q => h7 ((hb_z (by omega)).mpr q.1))]) ?_
        exact ih
      · refine v_iload dX8_lentFor_67 0 rfl ?_
        refine v_iload dX8_lentFor_69 3 rfl ?_
        refine v_icmp_geN (a := (bitc (nI i) 16)) (b := (lnC (I 29) (refv (fun q => (Wl (I 24) (I 25) (I 26) (I 31) pp (nsW I nl na) (I 23 9) (I 27) (I 29) pz q)) 16) pp pz sz gz i).1) (tgt := 122) dX8_lentFor_71 (by decide) rfl rfl (by omega) (by omega) (fun h9 => ?_) (fun h9 => ?_)
        · refine v_inc (v := nI (i + 1)) (lv2 := [(6, .int (nI (i + 1))), (7, .int (nI (bitc (nI i) 16))), (5, .int ((lnC (I 29) (refv (fun q => (Wl (I 24) (I 25) (I 26) (I 31) pp (nsW I nl na) (I 23 9) (I 27) (I 29) pz q)) 16) pp pz sz gz i).2)), (4, .int (nI ((lnC (I 29) (refv (fun q => (Wl (I 24) (I 25) (I 26) (I 31) pp (nsW I nl na) (I 23 9) (I 27) (I 29) pz q)) 16) pp pz sz gz i).1))), (3, .int (refv (fun q => (Wl (I 24) (I 25) (I 26) (I 31) pp (nsW I nl na) (I 23 9) (I 27) (I 29) pz q)) 16)), (2, .int (nI gz)), (0, .ref (g.1 + 0)), (1, .int (nI pz))]) dX8_lentFor_122 1 rfl (nx_inc rfl) (by decide) rfl ?_
          refine v_goto (tgt := 37) dX8_lentFor_125 (by decide) ?_
          refine v_sub (lv2 := [(6, .int (nI (i + 1))), (5, .int ((lnC (I 29) (refv (fun q => (Wl (I 24) (I 25) (I 26) (I 31) pp (nsW I nl na) (I 23 9) (I 27) (I 29) pz q)) 16) pp pz sz gz i).2)), (4, .int (nI ((lnC (I 29) (refv (fun q => (Wl (I 24) (I 25) (I 26) (I 31) pp (nsW I nl na) (I 23 9) (I 27) (I 29) pz q)) 16) pp pz sz gz i).1))), (3, .int (refv (fun q => (Wl (I 24) (I 25) (I 26) (I 31) pp (nsW I nl na) (I 23 9) (I 27) (I 29) pz q)) 16)), (2, .int (nI gz)), (0, .ref (g.1 + 0)), (1, .int (nI pz))]) [0, 2, 3, 4, 5, 6, 7] rfl ?_
          refine v_lv (lv2 := [(6, .int (nI (i + 1))), (5, .int ((lnC (I 29) (refv (fun q => (Wl (I 24) (I 25) (I 26) (I 31) pp (nsW I nl na) (I 23 9) (I 27) (I 29) pz q)) 16) pp pz sz gz (i + 1)).2)), (4, .int (nI ((lnC (I 29) (refv (fun q => (Wl (I 24) (I 25) (I 26) (I 31) pp (nsW I nl na) (I 23 9) (I 27) (I 29) pz q)) 16) pp pz sz gz (i + 1)).1))), (3, .int (refv (fun q => (Wl (I 24) (I 25) (I 26) (I 31) pp (nsW I nl na) (I 23 9) (I 27) (I 29) pz q)) 16)), (2, .int (nI gz)), (0, .ref (g.1 + 0)), (1, .int (nI pz))]) (by rw [lnC_f (fun q => absurd q.2.1 (Nat.not_lt.mpr h9))]) ?_
          exact ih
        · refine v_aload_n dX8_lentFor_74 rfl 6 rfl ?_
          refine v_get (v := .ref (g.1 + 23)) fa_X8_51 dX8_lentFor_75 rfl (by decide) (ltn rfl) rfl ?_
          refine v_get (v := .ref (g.1 + 29)) fa_X8_94 dX8_lentFor_78 rfl (by decide) (ltn rfl) rfl ?_
          refine v_iload_n dX8_lentFor_81 rfl 7 rfl ?_
          refine v_iaload (len := 6) (j := pz) dX8_lentFor_82 rfl (ltn rfl) rfl (by decide) rfl (by omega) ?_
          refine v_is (y := I 29 pz) (by rfl) ?_
          refine v_aload_n dX8_lentFor_83 rfl 6 rfl ?_
          refine v_get (v := .ref (g.1 + 23)) fa_X8_51 dX8_lentFor_84 rfl (by decide) (ltn rfl) rfl ?_
          refine v_iload dX8_lentFor_87 1 rfl ?_
          refine v_callVi (As := [.int (nI i)]) (rest := [.int (I 29 pz)]) lk_X8_307 (c_chartsOf_23 (I := (va_up I 32 fq3)) (nI i) pp hpp hpe) dX8_lentFor_89 rfl (ltn rfl) rfl rfl (Nat.le_of_ble_eq_true rfl) (by decide) ?_
          refine v_is (y := (chF (I 29) (nI i) pp)) rfl ?_
          refine v_ior dX8_lentFor_92 ?_
          refine v_istore (lv2 := [(8, .int (I 29 pz ||| (chF (I 29) (nI i) pp))), (7, .int (nI (bitc (nI i) 16))), (6, .int (nI i)), (5, .int ((lnC (I 29) (refv (fun q => (Wl (I 24) (I 25) (I 26) (I 31) pp (nsW I nl na) (I 23 9) (I 27) (I 29) pz q)) 16) pp pz sz gz i).2)), (4, .int (nI ((lnC (I 29) (refv (fun q => (Wl (I 24) (I 25) (I 26) (I 31) pp (nsW I nl na) (I 23 9) (I 27) (I 29) pz q)) 16) pp pz sz gz i).1))), (3, .int (refv (fun q => (Wl (I 24) (I 25) (I 26) (I 31) pp (nsW I nl na) (I 23 9) (I 27) (I 29) pz q)) 16)), (2, .int (nI gz)), (0, .ref (g.1 + 0)), (1, .int (nI pz))]) dX8_lentFor_93 (by decide) rfl ?_
          refine v_aload_n dX8_lentFor_95 rfl 7 rfl ?_
          refine v_get (v := .ref (g.1 + 23)) fa_X8_51 dX8_lentFor_96 rfl (by decide) (ltn rfl) rfl ?_
          refine v_get (v := .ref (g.1 + 27)) fa_X8_84 dX8_lentFor_99 rfl (by decide) (ltn rfl) rfl ?_
          refine v_iload_n dX8_lentFor_102 rfl 8 rfl ?_
          refine v_iaload (len := 6) (j := pz) dX8_lentFor_103 rfl (ltn rfl) rfl (by decide) rfl (by omega) ?_
          refine v_is (y := nI sz) (by exact hes) ?_
          refine v_iload_n dX8_lentFor_104 rfl 6 rfl ?_
          refine v_iload dX8_lentFor_105 0 rfl ?_
          refine v_iload_n dX8_lentFor_107 rfl 5 rfl ?_
          refine v_callSi (As := [.int (nI sz), .int (nI gz), .int (I 29 pz ||| (chF (I 29) (nI i) pp)), .int (refv (fun q => (Wl (I 24) (I 25) (I 26) (I 31) pp (nsW I nl na) (I 23 9) (I 27) (I 29) pz q)) 16)]) (rest := []) lk_X8_310 (c_X7_avoids sz gz (I 29 pz ||| (chF (I 29) (nI i) pp)) (refv (fun q => (Wl (I 24) (I 25) (I 26) (I 31) pp (nsW I nl na) (I 23 9) (I 27) (I 29) pz q)) 16) (by omega) (by omega)) dX8_lentFor_108 rfl rfl (Nat.le_of_ble_eq_true rfl) (by decide) ?_
          refine v_ifb_eq (tgt := 122) dX8_lentFor_111 (by decide) (fun h10 => ?_) (fun h10 => ?_)
          · refine v_inc (v := nI (i + 1)) (lv2 := [(6, .int (nI (i + 1))), (8, .int (I 29 pz ||| (chF (I 29) (nI i) pp))), (7, .int (nI (bitc (nI i) 16))), (5, .int ((lnC (I 29) (refv (fun q => (Wl (I 24) (I 25) (I 26) (I 31) pp (nsW I nl na) (I 23 9) (I 27) (I 29) pz q)) 16) pp pz sz gz i).2)), (4, .int (nI ((lnC (I 29) (refv (fun q => (Wl (I 24) (I 25) (I 26) (I 31) pp (nsW I nl na) (I 23 9) (I 27) (I 29) pz q)) 16) pp pz sz gz i).1))), (3, .int (refv (fun q => (Wl (I 24) (I 25) (I 26) (I 31) pp (nsW I nl na) (I 23 9) (I 27) (I 29) pz q)) 16)), (2, .int (nI gz)), (0, .ref (g.1 + 0)), (1, .int (nI pz))]) dX8_lentFor_122 2 rfl (nx_inc rfl) (by decide) rfl ?_
            refine v_goto (tgt := 37) dX8_lentFor_125 (by decide) ?_
            refine v_sub (lv2 := [(6, .int (nI (i + 1))), (5, .int ((lnC (I 29) (refv (fun q => (Wl (I 24) (I 25) (I 26) (I 31) pp (nsW I nl na) (I 23 9) (I 27) (I 29) pz q)) 16) pp pz sz gz i).2)), (4, .int (nI ((lnC (I 29) (refv (fun q => (Wl (I 24) (I 25) (I 26) (I 31) pp (nsW I nl na) (I 23 9) (I 27) (I 29) pz q)) 16) pp pz sz gz i).1))), (3, .int (refv (fun q => (Wl (I 24) (I 25) (I 26) (I 31) pp (nsW I nl na) (I 23 9) (I 27) (I 29) pz q)) 16)), (2, .int (nI gz)), (0, .ref (g.1 + 0)), (1, .int (nI pz))]) [0, 3, 4, 5, 6, 7, 8] rfl ?_
            refine v_lv (lv2 := [(6, .int (nI (i + 1))), (5, .int ((lnC (I 29) (refv (fun q => (Wl (I 24) (I 25) (I 26) (I 31) pp (nsW I nl na) (I 23 9) (I 27) (I 29) pz q)) 16) pp pz sz gz (i + 1)).2)), (4, .int (nI ((lnC (I 29) (refv (fun q => (Wl (I 24) (I 25) (I 26) (I 31) pp (nsW I nl na) (I 23 9) (I 27) (I 29) pz q)) 16) pp pz sz gz (i + 1)).1))), (3, .int (refv (fun q => (Wl (I 24) (I 25) (I 26) (I 31) pp (nsW I nl na) (I 23 9) (I 27) (I 29) pz q)) 16)), (2, .int (nI gz)), (0, .ref (g.1 + 0)), (1, .int (nI pz))]) (by rw [lnC_f (fun q => h10 q.2.2)]) ?_
            exact ih
          · refine v_iload dX8_lentFor_114 1 rfl ?_
            refine v_istore (lv2 := [(4, .int (nI (bitc (nI i) 16))), (8, .int (I 29 pz ||| (chF (I 29) (nI i) pp))), (7, .int (nI (bitc (nI i) 16))), (6, .int (nI i)), (5, .int ((lnC (I 29) (refv (fun q => (Wl (I 24) (I 25) (I 26) (I 31) pp (nsW I nl na) (I 23 9) (I 27) (I 29) pz q)) 16) pp pz sz gz i).2)), (3, .int (refv (fun q => (Wl (I 24) (I 25) (I 26) (I 31) pp (nsW I nl na) (I 23 9) (I 27) (I 29) pz q)) 16)), (2, .int (nI gz)), (0, .ref (g.1 + 0)), (1, .int (nI pz))]) dX8_lentFor_116 (by decide) rfl ?_
            refine v_iload dX8_lentFor_118 3 rfl ?_
            refine v_istore (lv2 := [(5, .int (nI i)), (4, .int (nI (bitc (nI i) 16))), (8, .int (I 29 pz ||| (chF (I 29) (nI i) pp))), (7, .int (nI (bitc (nI i) 16))), (6, .int (nI i)), (3, .int (refv (fun q => (Wl (I 24) (I 25) (I 26) (I 31) pp (nsW I nl na) (I 23 9) (I 27) (I 29) pz q)) 16)), (2, .int (nI gz)), (0, .ref (g.1 + 0)), (1, .int (nI pz))]) dX8_lentFor_120 (by decide) rfl ?_
            refine v_inc (v := nI (i + 1)) (lv2 := [(6, .int (nI (i + 1))), (5, .int (nI i)), (4, .int (nI (bitc (nI i) 16))), (8, .int (I 29 pz ||| (chF (I 29) (nI i) pp))), (7, .int (nI (bitc (nI i) 16))), (3, .int (refv (fun q => (Wl (I 24) (I 25) (I 26) (I 31) pp (nsW I nl na) (I 23 9) (I 27) (I 29) pz q)) 16)), (2, .int (nI gz)), (0, .ref (g.1 + 0)), (1, .int (nI pz))]) dX8_lentFor_122 4 rfl (nx_inc rfl) (by decide) rfl ?_
            refine v_goto (tgt := 37) dX8_lentFor_125 (by decide) ?_
            refine v_sub (lv2 := [(6, .int (nI (i + 1))), (5, .int (nI i)), (4, .int (nI (bitc (nI i) 16))), (3, .int (refv (fun q => (Wl (I 24) (I 25) (I 26) (I 31) pp (nsW I nl na) (I 23 9) (I 27) (I 29) pz q)) 16)), (2, .int (nI gz)), (0, .ref (g.1 + 0)), (1, .int (nI pz))]) [0, 1, 2, 5, 6, 7, 8] rfl ?_
            refine v_lv (lv2 := [(6, .int (nI (i + 1))), (5, .int ((lnC (I 29) (refv (fun q => (Wl (I 24) (I 25) (I 26) (I 31) pp (nsW I nl na) (I 23 9) (I 27) (I 29) pz q)) 16) pp pz sz gz (i + 1)).2)), (4, .int (nI ((lnC (I 29) (refv (fun q => (Wl (I 24) (I 25) (I 26) (I 31) pp (nsW I nl na) (I 23 9) (I 27) (I 29) pz q)) 16) pp pz sz gz (i + 1)).1))), (3, .int (refv (fun q => (Wl (I 24) (I 25) (I 26) (I 31) pp (nsW I nl na) (I 23 9) (I 27) (I 29) pz q)) 16)), (2, .int (nI gz)), (0, .ref (g.1 + 0)), (1, .int (nI pz))]) (by rw [lnC_t ⟨((hb_z (by omega)).mp h7), h9, h10⟩]) ?_
            exact ih
  · refine v_bipush (v := (-5)) dX8_lentFor_14 (by decide) ?_
    exact v_iret hr dX8_lentFor_16 (⟨congrArg (fun z => some (Value.int z)) (by rw [ifc_t (Int32.not_le.mp h2)]), ⟨_, scC_self _⟩, rfl, ⟨_, rfl⟩, rfl, rfl⟩)
