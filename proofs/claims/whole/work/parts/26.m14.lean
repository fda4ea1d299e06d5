noncomputable def lentF (ch : Nat → Int32) (rf : Int32) (pp p sz gz : Nat) : Nat → Int32
  | 0 => -5
  | s + 1 => ifc (hb (nI s) p) (lentF ch rf pp p sz gz s) (ifc (¬ lentF ch rf pp p sz gz s < 0 ∧ bitc (lentF ch rf pp p sz gz s) 16 ≤ bitc (nI s) 16) (lentF ch rf pp p sz gz s) (ifc (lead (drw ch p (nI s) pp) rf sz gz) (nI s) (lentF ch rf pp p sz gz s)))
theorem shl_pp : ∀ pp, pp ≤ 6 → (1 : Int32) <<< (nI pp &&& 31) = nI (2 ^ pp) := by decide +kernel
theorem pow_pp : ∀ pp, pp ≤ 6 → 2 ^ pp ≤ 64 := by decide +kernel
set_option maxRecDepth 100000 in
set_option maxHeartbeats 4000000 in
theorem c_X9_lent {g : Gl} {I : Ty} {L : TL} {na nt ni m : Nat} {nl : Nat → Nat} (p : Nat) (pp : Nat) (hpp : pp ≤ 6) (hpe : I 65 0 = nI pp) (hp : p < 6) (hN : mOK I) (hS : okS (mget I)) (hG : okG (I 70)) : Ct g yX9_lent cX9_lent 5 (some .int) 5 0 0 [.ref (g.1 + 65), .int (nI p)] I L (RT na nt ni) (NT nl) (NB + m) (Pq (some (.int (ifc (I 70 p < 0) (-5) (lentF (I 71) (refv (mwel I pp p) 16) pp p (tn (I 69 p)) (tn (I 70 p)) (2 ^ pp))))) I L (RT na nt ni) (NT nl) (NB + m)) := by
  refine ct_of (by decide +kernel) (Nat.le_of_ble_eq_true rfl) (fun F hnm hr => ?_)
  clear hnm
  show V g F cX9_lent RX9 5 5 0 [(0, .ref (g.1 + 65)), (1, .int (nI p))] [] I L (RT na nt ni) (NT nl) (NB + m) 0 0
  obtain ⟨sz, hsz, hes⟩ := hS p hp
  have hes : I 69 p = nI sz := hes
  have hp64 := pow_pp pp hpp
  refine v_aload_n dX9_lent_0 rfl 0 rfl ?_
  refine v_get (v := .ref (g.1 + 70)) fa_X9_29 dX9_lent_1 rfl (by decide) (ltn rfl) rfl ?_
  refine v_iload_n dX9_lent_4 rfl 1 rfl ?_
  refine v_iaload (len := 6) (j := p) dX9_lent_5 rfl (ltn rfl) rfl (by decide) rfl (by omega) ?_
  refine v_if_ge (tgt := 12) dX9_lent_6 (by decide) (fun h2 => ?_) (fun h2 => ?_)
  · have hgn := Int32.not_lt.mpr h2
    obtain ⟨gz, hgz, heg⟩ := (hG p hp).resolve_left hgn
    refine v_aload_n dX9_lent_12 rfl 0 rfl ?_
    refine v_iload_n dX9_lent_13 rfl 1 rfl ?_
    refine v_callVqi (As := [.int (nI p)]) (rest := []) lk_X9_340 (c_X9_refusals p pp hpp hpe (by omega) hN) dX9_lent_14 rfl (ltn rfl) rfl rfl (Nat.le_of_ble_eq_true rfl) (by decide) (fun fq3 hq4 => ?_)
    refine v_istore_n (lv2 := [(2, .int (refv (mwel I pp p) 16)), (0, .ref (g.1 + 65)), (1, .int (nI p))]) dX9_lent_17 rfl (by decide) rfl ?_
    refine v_bipush (v := (-5)) dX9_lent_18 (by decide) ?_
    refine v_istore_n (lv2 := [(3, .int (-5)), (2, .int (refv (mwel I pp p) 16)), (0, .ref (g.1 + 65)), (1, .int (nI p))]) dX9_lent_20 rfl (by decide) rfl ?_
    refine v_iconst (v := 0) dX9_lent_21 (by decide) ?_
    refine v_istore (lv2 := [(4, .int 0), (3, .int (-5)), (2, .int (refv (mwel I pp p) 16)), (0, .ref (g.1 + 65)), (1, .int (nI p))]) dX9_lent_22 (by decide) rfl ?_
    refine v_lv (lv2 := [(4, .int (nI 0)), (3, .int (lentF (I 71) (refv (mwel I pp p) 16) pp p sz gz 0)), (2, .int (refv (mwel I pp p) 16)), (0, .ref (g.1 + 65)), (1, .int (nI p))]) (by rfl) ?_
    refine dloop (P := fun i => ∀ (fq : Nat → Int32) (hq : Nat → Int32), V g F cX9_lent RX9 5 5 24 [(4, .int (nI i)), (3, .int (lentF (I 71) (refv (mwel I pp p) 16) pp p sz gz i)), (2, .int (refv (mwel I pp p) 16)), (0, .ref (g.1 + 65)), (1, .int (nI p))] [] (scr I fq hq) L (RT na nt ni) (NT nl) (NB + m) 0 0) (2 ^ pp) ?_ ?_ 0 (Nat.zero_le _) fq3 hq4
    · intro fq hq
      refine v_iload dX9_lent_24 0 rfl ?_
      refine v_iconst (v := 1) dX9_lent_26 (by decide) ?_
      refine v_aload_n dX9_lent_27 rfl 3 rfl ?_
      refine v_get (v := .int ((scr I fq hq) 65 0)) fa_X9_7 dX9_lent_28 rfl (by decide) (ltn rfl) rfl ?_
      refine v_is (y := I 65 0) (by rfl) ?_
      refine v_is hpe ?_
      refine v_ishl dX9_lent_31 ?_
      refine v_is (shl_pp pp hpp) ?_
      refine v_icmp_geN (a := (2 ^ pp)) (b := (2 ^ pp)) (tgt := 95) dX9_lent_32 (by decide) rfl rfl (by omega) (by omega) (fun h5 => ?_) (fun h => by exfalso; omega)
      refine v_iload_n dX9_lent_95 rfl 1 rfl ?_
      exact v_iret hr dX9_lent_96 (⟨by rw [ifc_f hgn, heg, tn_nI (by omega), hes, tn_nI (by omega)], ⟨_, _, rfl⟩, rfl, rfl, rfl, rfl⟩)
    · intro i hi ih
      intro fq hq
      have hb1 := bitc_le (nI i) 16
      have hb2 := bitc_le (lentF (I 71) (refv (mwel I pp p) 16) pp p sz gz i) 16
      refine v_iload dX9_lent_24 0 rfl ?_
      refine v_iconst (v := 1) dX9_lent_26 (by decide) ?_
      refine v_aload_n dX9_lent_27 rfl 3 rfl ?_
      refine v_get (v := .int ((scr I fq hq) 65 0)) fa_X9_7 dX9_lent_28 rfl (by decide) (ltn rfl) rfl ?_
      refine v_is (y := I 65 0) (by rfl) ?_
      refine v_is hpe ?_
      refine v_ishl dX9_lent_31 ?_
      refine v_is (shl_pp pp hpp) ?_
      refine v_icmp_geN (a := i) (b := (2 ^ pp)) (tgt := 95) dX9_lent_32 (by decide) rfl rfl (by omega) (by omega) (fun h => by exfalso; omega) (fun h6 => ?_)
      refine v_aload_n dX9_lent_35 rfl 3 rfl ?_
      refine v_iload dX9_lent_36 0 rfl ?_
      refine v_iload_n dX9_lent_38 rfl 4 rfl ?_
      refine v_callVi (As := [.int (nI i), .int (nI p)]) (rest := []) lk_X9_233 (c_hasN (nI i) p) dX9_lent_39 rfl (ltn rfl) rfl rfl (Nat.le_of_ble_eq_true rfl) (by decide) ?_
      refine v_ifb_ne (tgt := 89) dX9_lent_42 (by decide) (fun h7 => ?_) (fun h7 => ?_)
      · -- hb (nI i) p
        refine v_inc (v := nI (i + 1)) (lv2 := [(4, .int (nI (i + 1))), (3, .int (lentF (I 71) (refv (mwel I pp p) 16) pp p sz gz i)), (2, .int (refv (mwel I pp p) 16)), (0, .ref (g.1 + 65)), (1, .int (nI p))]) dX9_lent_89 0 rfl (nx_inc rfl) (by decide) rfl ?_
        refine v_goto (tgt := 24) dX9_lent_92 (by decide) ?_
        refine v_lv (lv2 := [(4, .int (nI (i + 1))), (3, .int (lentF (I 71) (refv (mwel I pp p) 16) pp p sz gz (i + 1))), (2, .int (refv (mwel I pp p) 16)), (0, .ref (g.1 + 65)), (1, .int (nI p))]) (by simp only [lentF, ifc_t h7]) ?_
        exact ih _ _
      · -- not hb (nI i) p
        refine v_iload_n dX9_lent_45 rfl 1 rfl ?_
        refine v_if_lt (tgt := 66) dX9_lent_46 (by decide) (fun h8 => ?_) (fun h8 => ?_)
        · -- (lentF (I 71) (refv (mwel I pp p) 16) pp p sz gz i) lt 0
          refine v_aload_n dX9_lent_66 rfl 3 rfl ?_
          refine v_iload_n dX9_lent_67 rfl 4 rfl ?_
          refine v_aload_n dX9_lent_68 rfl 3 rfl ?_
          refine v_iload_n dX9_lent_69 rfl 4 rfl ?_
          refine v_iload dX9_lent_70 0 rfl ?_
          refine v_callVi (As := [.int (nI p), .int (nI i)]) (rest := [.int (nI p), .ref (g.1 + 65)]) lk_X9_371 (c_X9_drawnBy (I := (scr I fq hq)) p (nI i) pp hpp hpe (by omega)) dX9_lent_72 rfl (ltn rfl) rfl rfl (Nat.le_of_ble_eq_true rfl) (by decide) ?_
          refine v_is (y := (drw (I 71) p (nI i) pp)) rfl ?_
          refine v_iload_n dX9_lent_75 rfl 2 rfl ?_
          refine v_callVqi (As := [.int (nI p), .int (drw (I 71) p (nI i) pp), .int (refv (mwel I pp p) 16)]) (rest := []) lk_X9_374 (c_X9_leadsRight (I := (scr I fq hq)) p (drw (I 71) p (nI i) pp) (refv (mwel I pp p) 16) sz gz (by omega) hsz hes hgz heg) dX9_lent_76 rfl (ltn rfl) rfl rfl (Nat.le_of_ble_eq_true rfl) (by decide) (fun fq9 hq10 => ?_)
          refine v_I (scr_scr _ _ _ _ _) ?_
          refine v_ifb_eq (tgt := 87) dX9_lent_79 (by decide) (fun h11 => ?_) (fun h11 => ?_)
          · -- not (lead (drw (I 71) p (nI i) pp) (refv (mwel I pp p) 16) sz gz)
            refine v_iload_n dX9_lent_87 rfl 1 rfl ?_
            refine v_istore_n (lv2 := [(3, .int (lentF (I 71) (refv (mwel I pp p) 16) pp p sz gz i)), (4, .int (nI i)), (2, .int (refv (mwel I pp p) 16)), (0, .ref (g.1 + 65)), (1, .int (nI p))]) dX9_lent_88 rfl (by decide) rfl ?_
            refine v_inc (v := nI (i + 1)) (lv2 := [(4, .int (nI (i + 1))), (3, .int (lentF (I 71) (refv (mwel I pp p) 16) pp p sz gz i)), (2, .int (refv (mwel I pp p) 16)), (0, .ref (g.1 + 65)), (1, .int (nI p))]) dX9_lent_89 1 rfl (nx_inc rfl) (by decide) rfl ?_
            refine v_goto (tgt := 24) dX9_lent_92 (by decide) ?_
            refine v_lv (lv2 := [(4, .int (nI (i + 1))), (3, .int (lentF (I 71) (refv (mwel I pp p) 16) pp p sz gz (i + 1))), (2, .int (refv (mwel I pp p) 16)), (0, .ref (g.1 + 65)), (1, .int (nI p))]) (by simp only [lentF, ifc_f h7, ifc_f (not_and_of_not_left _ (not_not_intro h8)), ifc_f h11]) ?_
            exact ih _ _
          · -- (lead (drw (I 71) p (nI i) pp) (refv (mwel I pp p) 16) sz gz)
            refine v_iload dX9_lent_82 0 rfl ?_
            refine v_goto (tgt := 88) dX9_lent_84 (by decide) ?_
            refine v_istore_n (lv2 := [(3, .int (nI i)), (4, .int (nI i)), (2, .int (refv (mwel I pp p) 16)), (0, .ref (g.1 + 65)), (1, .int (nI p))]) dX9_lent_88 rfl (by decide) rfl ?_
            refine v_inc (v := nI (i + 1)) (lv2 := [(4, .int (nI (i + 1))), (3, .int (nI i)), (2, .int (refv (mwel I pp p) 16)), (0, .ref (g.1 + 65)), (1, .int (nI p))]) dX9_lent_89 1 rfl (nx_inc rfl) (by decide) rfl ?_
            refine v_goto (tgt := 24) dX9_lent_92 (by decide) ?_
            refine v_lv (lv2 := [(4, .int (nI (i + 1))), (3, .int (lentF (I 71) (refv (mwel I pp p) 16) pp p sz gz (i + 1))), (2, .int (refv (mwel I pp p) 16)), (0, .ref (g.1 + 65)), (1, .int (nI p))]) (by simp only [lentF, ifc_f h7, ifc_f (not_and_of_not_left _ (not_not_intro h8)), ifc_t h11]) ?_
            exact ih _ _
        · -- (lentF (I 71) (refv (mwel I pp p) 16) pp p sz gz i) ge 0
          refine v_aload_n dX9_lent_49 rfl 3 rfl ?_
          refine v_iload dX9_lent_50 0 rfl ?_
          refine v_callVi (As := [.int (nI i)]) (rest := []) lk_X9_315 (c_X9_bits (nI i)) dX9_lent_52 rfl (ltn rfl) rfl rfl (Nat.le_of_ble_eq_true rfl) (by decide) ?_
          refine v_aload_n dX9_lent_55 rfl 3 rfl ?_
          refine v_iload_n dX9_lent_56 rfl 1 rfl ?_
          refine v_callVi (As := [.int (lentF (I 71) (refv (mwel I pp p) 16) pp p sz gz i)]) (rest := [.int (nI (bitc (nI i) 16))]) lk_X9_315 (c_X9_bits (lentF (I 71) (refv (mwel I pp p) 16) pp p sz gz i)) dX9_lent_57 rfl (ltn rfl) rfl rfl (Nat.le_of_ble_eq_true rfl) (by decide) ?_
          refine v_icmp_ltN (a := (bitc (nI i) 16)) (b := (bitc (lentF (I 71) (refv (mwel I pp p) 16) pp p sz gz i) 16)) (tgt := 66) dX9_lent_60 (by decide) rfl rfl (by omega) (by omega) (fun h12 => ?_) (fun h12 => ?_)
          · -- (bitc (nI i) 16) lt (bitc (lentF (I 71) (refv (mwel I pp p) 16) pp p sz gz i) 16)
            refine v_aload_n dX9_lent_66 rfl 3 rfl ?_
            refine v_iload_n dX9_lent_67 rfl 4 rfl ?_
            refine v_aload_n dX9_lent_68 rfl 3 rfl ?_
            refine v_iload_n dX9_lent_69 rfl 4 rfl ?_
            refine v_iload dX9_lent_70 0 rfl ?_
            refine v_callVi (As := [.int (nI p), .int (nI i)]) (rest := [.int (nI p), .ref (g.1 + 65)]) lk_X9_371 (c_X9_drawnBy (I := (scr I fq hq)) p (nI i) pp hpp hpe (by omega)) dX9_lent_72 rfl (ltn rfl) rfl rfl (Nat.le_of_ble_eq_true rfl) (by decide) ?_
            refine v_is (y := (drw (I 71) p (nI i) pp)) rfl ?_
            refine v_iload_n dX9_lent_75 rfl 2 rfl ?_
            refine v_callVqi (As := [.int (nI p), .int (drw (I 71) p (nI i) pp), .int (refv (mwel I pp p) 16)]) (rest := []) lk_X9_374 (c_X9_leadsRight (I := (scr I fq hq)) p (drw (I 71) p (nI i) pp) (refv (mwel I pp p) 16) sz gz (by omega) hsz hes hgz heg) dX9_lent_76 rfl (ltn rfl) rfl rfl (Nat.le_of_ble_eq_true rfl) (by decide) (fun fq13 hq14 => ?_)
            refine v_I (scr_scr _ _ _ _ _) ?_
            refine v_ifb_eq (tgt := 87) dX9_lent_79 (by decide) (fun h15 => ?_) (fun h15 => ?_)
            · -- not (lead (drw (I 71) p (nI i) pp) (refv (mwel I pp p) 16) sz gz)
              refine v_iload_n dX9_lent_87 rfl 1 rfl ?_
              refine v_istore_n (lv2 := [(3, .int (lentF (I 71) (refv (mwel I pp p) 16) pp p sz gz i)), (4, .int (nI i)), (2, .int (refv (mwel I pp p) 16)), (0, .ref (g.1 + 65)), (1, .int (nI p))]) dX9_lent_88 rfl (by decide) rfl ?_
              refine v_inc (v := nI (i + 1)) (lv2 := [(4, .int (nI (i + 1))), (3, .int (lentF (I 71) (refv (mwel I pp p) 16) pp p sz gz i)), (2, .int (refv (mwel I pp p) 16)), (0, .ref (g.1 + 65)), (1, .int (nI p))]) dX9_lent_89 1 rfl (nx_inc rfl) (by decide) rfl ?_
              refine v_goto (tgt := 24) dX9_lent_92 (by decide) ?_
              refine v_lv (lv2 := [(4, .int (nI (i + 1))), (3, .int (lentF (I 71) (refv (mwel I pp p) 16) pp p sz gz (i + 1))), (2, .int (refv (mwel I pp p) 16)), (0, .ref (g.1 + 65)), (1, .int (nI p))]) (by simp only [lentF, ifc_f h7, ifc_f (not_and_of_not_right _ (Nat.not_le.mpr h12)), ifc_f h15]) ?_
              exact ih _ _
            · -- (lead (drw (I 71) p (nI i) pp) (refv (mwel I pp p) 16) sz gz)
              refine v_iload dX9_lent_82 0 rfl ?_
              refine v_goto (tgt := 88) dX9_lent_84 (by decide) ?_
              refine v_istore_n (lv2 := [(3, .int (nI i)), (4, .int (nI i)), (2, .int (refv (mwel I pp p) 16)), (0, .ref (g.1 + 65)), (1, .int (nI p))]) dX9_lent_88 rfl (by decide) rfl ?_
              refine v_inc (v := nI (i + 1)) (lv2 := [(4, .int (nI (i + 1))), (3, .int (nI i)), (2, .int (refv (mwel I pp p) 16)), (0, .ref (g.1 + 65)), (1, .int (nI p))]) dX9_lent_89 1 rfl (nx_inc rfl) (by decide) rfl ?_
              refine v_goto (tgt := 24) dX9_lent_92 (by decide) ?_
              refine v_lv (lv2 := [(4, .int (nI (i + 1))), (3, .int (lentF (I 71) (refv (mwel I pp p) 16) pp p sz gz (i + 1))), (2, .int (refv (mwel I pp p) 16)), (0, .ref (g.1 + 65)), (1, .int (nI p))]) (by simp only [lentF, ifc_f h7, ifc_f (not_and_of_not_right _ (Nat.not_le.mpr h12)), ifc_t h15]) ?_
              exact ih _ _
          · -- (bitc (nI i) 16) ge (bitc (lentF (I 71) (refv (mwel I pp p) 16) pp p sz gz i) 16)
            refine v_goto (tgt := 89) dX9_lent_63 (by decide) ?_
            refine v_inc (v := nI (i + 1)) (lv2 := [(4, .int (nI (i + 1))), (3, .int (lentF (I 71) (refv (mwel I pp p) 16) pp p sz gz i)), (2, .int (refv (mwel I pp p) 16)), (0, .ref (g.1 + 65)), (1, .int (nI p))]) dX9_lent_89 0 rfl (nx_inc rfl) (by decide) rfl ?_
            refine v_goto (tgt := 24) dX9_lent_92 (by decide) ?_
            refine v_lv (lv2 := [(4, .int (nI (i + 1))), (3, .int (lentF (I 71) (refv (mwel I pp p) 16) pp p sz gz (i + 1))), (2, .int (refv (mwel I pp p) 16)), (0, .ref (g.1 + 65)), (1, .int (nI p))]) (by simp only [lentF, ifc_f h7, ifc_t (And.intro h8 h12)]) ?_
            exact ih _ _
  · refine v_bipush (v := (-5)) dX9_lent_9 (by decide) ?_
    exact v_iret hr dX9_lent_11 (⟨by rw [ifc_t (Int32.not_le.mp h2)], ⟨_, _, scr_self I⟩, rfl, rfl, rfl, rfl⟩)
noncomputable def arrF (sp gl : Nat → Int32) : Nat → Int32
  | 0 => 0
  | p + 1 => arrF sp gl p ||| (ifc (sp p = gl p) ((1 : Int32) <<< (nI p &&& 31)) 0)
def sumF (no : Nat → Int32) : Nat → Int32
  | 0 => 0
  | p + 1 => sumF no p + no p
set_option maxRecDepth 100000 in
set_option maxHeartbeats 400000 in
theorem c_X9_arrived {g : Gl} {I : Ty} {L : TL} {na nt ni m : Nat} {nl : Nat → Nat}  (pp : Nat) (hpp : pp ≤ 6) (hpe : I 65 0 = nI pp) : Ct g yX9_arrived cX9_arrived 3 (some .int) 0 0 0 [.ref (g.1 + 65)] I L (RT na nt ni) (NT nl) (NB + m) (Ps (some (.int (arrF (I 69) (I 70) pp))) (I) L (RT na nt ni) (NT nl) (NB + m)) := by
  refine ct_of (by decide +kernel) (Nat.le_of_ble_eq_true rfl) (fun F hnm hr => ?_)
  clear hnm
  show V g F cX9_arrived RX9 3 0 0 [(0, .ref (g.1 + 65))] [] I L (RT na nt ni) (NT nl) (NB + m) 0 0
  refine v_iconst (v := 0) dX9_arrived_0 (by decide) ?_
  refine v_istore_n (lv2 := [(1, .int 0), (0, .ref (g.1 + 65))]) dX9_arrived_1 rfl (by decide) rfl ?_
  refine v_iconst (v := 0) dX9_arrived_2 (by decide) ?_
  refine v_istore_n (lv2 := [(2, .int 0), (1, .int 0), (0, .ref (g.1 + 65))]) dX9_arrived_3 rfl (by decide) rfl ?_
  refine v_lv (lv2 := [(2, .int (nI 0)), (1, .int (arrF (I 69) (I 70) 0)), (0, .ref (g.1 + 65))]) (by rfl) ?_
  refine dloop (P := fun i => V g F cX9_arrived RX9 3 0 4 [(2, .int (nI i)), (1, .int (arrF (I 69) (I 70) i)), (0, .ref (g.1 + 65))] [] I L (RT na nt ni) (NT nl) (NB + m) 0 0) pp ?_ ?_ 0 (Nat.zero_le _)
  · refine v_iload_n dX9_arrived_4 rfl 0 rfl ?_
    refine v_aload_n dX9_arrived_5 rfl 2 rfl ?_
    refine v_get (v := .int (I 65 0)) fa_X9_7 dX9_arrived_6 rfl (by decide) (ltn rfl) rfl ?_
    refine v_is hpe ?_
    refine v_icmp_geN (a := pp) (b := pp) (tgt := 43) dX9_arrived_9 (by decide) rfl rfl (by omega) (by omega) (fun h1 => ?_) (fun h => by exfalso; omega)
    refine v_iload_n dX9_arrived_43 rfl 1 rfl ?_
    exact v_iret hr dX9_arrived_44 (psi rfl rfl)
  · intro i hi ih
    refine v_iload_n dX9_arrived_4 rfl 0 rfl ?_
    refine v_aload_n dX9_arrived_5 rfl 2 rfl ?_
    refine v_get (v := .int (I 65 0)) fa_X9_7 dX9_arrived_6 rfl (by decide) (ltn rfl) rfl ?_
    refine v_is hpe ?_
    refine v_icmp_geN (a := i) (b := pp) (tgt := 43) dX9_arrived_9 (by decide) rfl rfl (by omega) (by omega) (fun h => by exfalso; omega) (fun h2 => ?_)
    refine v_iload_n dX9_arrived_12 rfl 1 rfl ?_
    refine v_aload_n dX9_arrived_13 rfl 2 rfl ?_
    refine v_get (v := .ref (g.1 + 69)) fa_X9_26 dX9_arrived_14 rfl (by decide) (ltn rfl) rfl ?_
    refine v_iload_n dX9_arrived_17 rfl 0 rfl ?_
    refine v_iaload (len := 6) (j := i) dX9_arrived_18 rfl (ltn rfl) rfl (by decide) rfl (by omega) ?_
    refine v_aload_n dX9_arrived_19 rfl 2 rfl ?_
    refine v_get (v := .ref (g.1 + 70)) fa_X9_29 dX9_arrived_20 rfl (by decide) (ltn rfl) rfl ?_
    refine v_iload_n dX9_arrived_23 rfl 0 rfl ?_
    refine v_iaload (len := 6) (j := i) dX9_arrived_24 rfl (ltn rfl) rfl (by decide) rfl (by omega) ?_
    refine v_icmp_ne (tgt := 34) dX9_arrived_25 (by decide) (fun h3 => ?_) (fun h3 => ?_)
    · -- I 69 i ne I 70 i
      refine v_iconst (v := 0) dX9_arrived_34 (by decide) ?_
      refine v_ior dX9_arrived_35 ?_
      refine v_istore_n (lv2 := [(1, .int ((arrF (I 69) (I 70) i) ||| 0)), (2, .int (nI i)), (0, .ref (g.1 + 65))]) dX9_arrived_36 rfl (by decide) rfl ?_
      refine v_inc (v := nI (i + 1)) (lv2 := [(2, .int (nI (i + 1))), (1, .int ((arrF (I 69) (I 70) i) ||| 0)), (0, .ref (g.1 + 65))]) dX9_arrived_37 1 rfl (nx_inc rfl) (by decide) rfl ?_
      refine v_goto (tgt := 4) dX9_arrived_40 (by decide) ?_
      refine v_lv (lv2 := [(2, .int (nI (i + 1))), (1, .int (arrF (I 69) (I 70) (i + 1))), (0, .ref (g.1 + 65))]) (by simp only [arrF, ifc_f h3]) ?_
      exact ih
    · -- I 69 i eq I 70 i
      refine v_iconst (v := 1) dX9_arrived_28 (by decide) ?_
      refine v_iload_n dX9_arrived_29 rfl 0 rfl ?_
      refine v_ishl dX9_arrived_30 ?_
      refine v_goto (tgt := 35) dX9_arrived_31 (by decide) ?_
      refine v_ior dX9_arrived_35 ?_
      refine v_istore_n (lv2 := [(1, .int ((arrF (I 69) (I 70) i) ||| (1 <<< (nI i &&& 31)))), (2, .int (nI i)), (0, .ref (g.1 + 65))]) dX9_arrived_36 rfl (by decide) rfl ?_
      refine v_inc (v := nI (i + 1)) (lv2 := [(2, .int (nI (i + 1))), (1, .int ((arrF (I 69) (I 70) i) ||| (1 <<< (nI i &&& 31)))), (0, .ref (g.1 + 65))]) dX9_arrived_37 1 rfl (nx_inc rfl) (by decide) rfl ?_
      refine v_goto (tgt := 4) dX9_arrived_40 (by decide) ?_
      refine v_lv (lv2 := [(2, .int (nI (i + 1))), (1, .int (arrF (I 69) (I 70) (i + 1))), (0, .ref (g.1 + 65))]) (by simp only [arrF, ifc_t h3]) ?_
      exact ih
set_option maxRecDepth 100000 in
set_option maxHeartbeats 400000 in
theorem c_X9_allNoes {g : Gl} {I : Ty} {L : TL} {na nt ni m : Nat} {nl : Nat → Nat}  (pp : Nat) (hpp : pp ≤ 6) (hpe : I 65 0 = nI pp) : Ct g yX9_allNoes cX9_allNoes 3 (some .int) 0 0 0 [.ref (g.1 + 65)] I L (RT na nt ni) (NT nl) (NB + m) (Ps (some (.int (sumF (I 72) pp))) (I) L (RT na nt ni) (NT nl) (NB + m)) := by
  refine ct_of (by decide +kernel) (Nat.le_of_ble_eq_true rfl) (fun F hnm hr => ?_)
  clear hnm
  show V g F cX9_allNoes RX9 3 0 0 [(0, .ref (g.1 + 65))] [] I L (RT na nt ni) (NT nl) (NB + m) 0 0
  refine v_iconst (v := 0) dX9_allNoes_0 (by decide) ?_
  refine v_istore_n (lv2 := [(1, .int 0), (0, .ref (g.1 + 65))]) dX9_allNoes_1 rfl (by decide) rfl ?_
  refine v_iconst (v := 0) dX9_allNoes_2 (by decide) ?_
  refine v_istore_n (lv2 := [(2, .int 0), (1, .int 0), (0, .ref (g.1 + 65))]) dX9_allNoes_3 rfl (by decide) rfl ?_
  refine v_lv (lv2 := [(2, .int (nI 0)), (1, .int (sumF (I 72) 0)), (0, .ref (g.1 + 65))]) (by rfl) ?_
  refine dloop (P := fun i => V g F cX9_allNoes RX9 3 0 4 [(2, .int (nI i)), (1, .int (sumF (I 72) i)), (0, .ref (g.1 + 65))] [] I L (RT na nt ni) (NT nl) (NB + m) 0 0) pp ?_ ?_ 0 (Nat.zero_le _)
  · refine v_iload_n dX9_allNoes_4 rfl 0 rfl ?_
    refine v_aload_n dX9_allNoes_5 rfl 2 rfl ?_
    refine v_get (v := .int (I 65 0)) fa_X9_7 dX9_allNoes_6 rfl (by decide) (ltn rfl) rfl ?_
    refine v_is hpe ?_
    refine v_icmp_geN (a := pp) (b := pp) (tgt := 27) dX9_allNoes_9 (by decide) rfl rfl (by omega) (by omega) (fun h1 => ?_) (fun h => by exfalso; omega)
    refine v_iload_n dX9_allNoes_27 rfl 1 rfl ?_
    exact v_iret hr dX9_allNoes_28 (psi rfl rfl)
  · intro i hi ih
    refine v_iload_n dX9_allNoes_4 rfl 0 rfl ?_
    refine v_aload_n dX9_allNoes_5 rfl 2 rfl ?_
    refine v_get (v := .int (I 65 0)) fa_X9_7 dX9_allNoes_6 rfl (by decide) (ltn rfl) rfl ?_
    refine v_is hpe ?_
    refine v_icmp_geN (a := i) (b := pp) (tgt := 27) dX9_allNoes_9 (by decide) rfl rfl (by omega) (by omega) (fun h => by exfalso; omega) (fun h2 => ?_)
    refine v_iload_n dX9_allNoes_12 rfl 1 rfl ?_
    refine v_aload_n dX9_allNoes_13 rfl 2 rfl ?_
    refine v_get (v := .ref (g.1 + 72)) fa_X9_35 dX9_allNoes_14 rfl (by decide) (ltn rfl) rfl ?_
    refine v_iload_n dX9_allNoes_17 rfl 0 rfl ?_
    refine v_iaload (len := 6) (j := i) dX9_allNoes_18 rfl (ltn rfl) rfl (by decide) rfl (by omega) ?_
    refine v_iadd dX9_allNoes_19 ?_
    refine v_istore_n (lv2 := [(1, .int ((sumF (I 72) i) + I 72 i)), (2, .int (nI i)), (0, .ref (g.1 + 65))]) dX9_allNoes_20 rfl (by decide) rfl ?_
    refine v_inc (v := nI (i + 1)) (lv2 := [(2, .int (nI (i + 1))), (1, .int ((sumF (I 72) i) + I 72 i)), (0, .ref (g.1 + 65))]) dX9_allNoes_21 1 rfl (nx_inc rfl) (by decide) rfl ?_
    refine v_goto (tgt := 4) dX9_allNoes_24 (by decide) ?_
    refine v_lv (lv2 := [(2, .int (nI (i + 1))), (1, .int (sumF (I 72) (i + 1))), (0, .ref (g.1 + 65))]) (by rfl) ?_
    exact ih
