set_option maxRecDepth 100000 in
set_option maxHeartbeats 400000 in
theorem c_X7_length {g : Gl} {I : Ty} {L : TL} {na nt ni m : Nat} {nl : Nat → Nat} (bz : Nat) (gl : Nat) (st : Int32) (hbz : bz < 16) (hgl : gl < 16) : Ct g yX7_length cX7_length 6 (some .int) 1 0 0 [.int (nI bz), .int (nI gl), .int st] I L (RT na nt ni) (NT nl) (NB + m) (Ps (some (.int (lw st bz gl))) (I) L (RT na nt ni) (NT nl) (NB + m)) := by
  refine ct_of (by decide +kernel) (Nat.le_of_ble_eq_true rfl) (fun F hnm hr => ?_)
  clear hnm
  show V g F cX7_length RX7 6 1 0 [(0, .int (nI bz)), (1, .int (nI gl)), (2, .int st)] [] I L (RT na nt ni) (NT nl) (NB + m) 0 0
  refine v_iconst (v := 1) dX7_length_0 (by decide) ?_
  refine v_iload_n dX7_length_1 rfl 0 rfl ?_
  refine v_ishl dX7_length_2 ?_
  refine v_istore_n (lv2 := [(3, .int (1 <<< (nI bz &&& 31))), (0, .int (nI bz)), (1, .int (nI gl)), (2, .int st)]) dX7_length_3 rfl (by decide) rfl ?_
  refine v_iconst (v := 0) dX7_length_4 (by decide) ?_
  refine v_istore (lv2 := [(4, .int 0), (3, .int (1 <<< (nI bz &&& 31))), (0, .int (nI bz)), (1, .int (nI gl)), (2, .int st)]) dX7_length_5 (by decide) rfl ?_
  refine v_lv (lv2 := [(4, .int (nI 0)), (3, .int (flo st ((1 : Int32) <<< (nI bz &&& 31)) 0)), (0, .int (nI bz)), (1, .int (nI gl)), (2, .int st)]) (by rfl) ?_
  refine dloop (P := fun i => (∀ j, j < i → ¬ hb (flo st ((1 : Int32) <<< (nI bz &&& 31)) j) gl) → V g F cX7_length RX7 6 1 7 [(4, .int (nI i)), (3, .int (flo st ((1 : Int32) <<< (nI bz &&& 31)) i)), (0, .int (nI bz)), (1, .int (nI gl)), (2, .int st)] [] I L (RT na nt ni) (NT nl) (NB + m) 0 0) 16 ?_ ?_ 0 (Nat.zero_le _) (fun j h => absurd h (Nat.not_lt_zero j))
  · intro hinv
    refine v_iload dX7_length_7 0 rfl ?_
    refine v_bipush (v := 16) dX7_length_9 (by decide) ?_
    refine v_icmp_geN (a := 16) (b := 16) (tgt := 55) dX7_length_11 (by decide) rfl rfl (by omega) (by omega) (fun h1 => ?_) (fun h => by exfalso; omega)
    refine v_bipush (v := (-5)) dX7_length_55 (by decide) ?_
    exact v_iret hr dX7_length_57 (psi (len_none hbz hgl hinv) rfl)
  · intro i hi ih
    intro hinv
    refine v_iload dX7_length_7 0 rfl ?_
    refine v_bipush (v := 16) dX7_length_9 (by decide) ?_
    refine v_icmp_geN (a := i) (b := 16) (tgt := 55) dX7_length_11 (by decide) rfl rfl (by omega) (by omega) (fun h => by exfalso; omega) (fun h2 => ?_)
    refine v_iload_n dX7_length_14 rfl 1 rfl ?_
    refine v_iload_n dX7_length_15 rfl 3 rfl ?_
    refine v_ishr dX7_length_16 ?_
    refine v_iconst (v := 1) dX7_length_17 (by decide) ?_
    refine v_iand dX7_length_18 ?_
    refine v_if_eq (tgt := 25) dX7_length_19 (by decide) (fun h4 => ?_) (fun h4 => ?_)
    · have hno : ¬ hb (flo st ((1 : Int32) <<< (nI bz &&& 31)) i) gl := (hb_z (by omega)).mp h4
      refine v_iload_n dX7_length_25 rfl 1 rfl ?_
      refine v_iload_n dX7_length_26 rfl 1 rfl ?_
      refine v_callSi (As := [.int (flo st ((1 : Int32) <<< (nI bz &&& 31)) i)]) (rest := [.int (flo st ((1 : Int32) <<< (nI bz &&& 31)) i)]) lk_X7_18 (c_X7_near (flo st ((1 : Int32) <<< (nI bz &&& 31)) i)) dX7_length_27 rfl rfl (Nat.le_of_ble_eq_true rfl) (by decide) ?_
      refine v_iload_n dX7_length_30 rfl 4 rfl ?_
      refine v_iconst (v := (-1)) dX7_length_31 (by decide) ?_
      refine v_ixor dX7_length_32 ?_
      refine v_iand dX7_length_33 ?_
      refine v_ior dX7_length_34 ?_
      refine v_istore (lv2 := [(5, .int ((flo st ((1 : Int32) <<< (nI bz &&& 31)) i) ||| ((nearI (flo st ((1 : Int32) <<< (nI bz &&& 31)) i)) &&& (st ^^^ (-1))))), (4, .int (nI i)), (3, .int (flo st ((1 : Int32) <<< (nI bz &&& 31)) i)), (0, .int (nI bz)), (1, .int (nI gl)), (2, .int st)]) dX7_length_35 (by decide) rfl ?_
      refine v_iload dX7_length_37 0 rfl ?_
      refine v_iload_n dX7_length_39 rfl 2 rfl ?_
      refine v_icmp_ne (tgt := 46) dX7_length_40 (by decide) (fun h6 => ?_) (fun h6 => ?_)
      · refine v_iload dX7_length_46 0 rfl ?_
        refine v_istore_n (lv2 := [(3, .int ((flo st ((1 : Int32) <<< (nI bz &&& 31)) i) ||| ((nearI (flo st ((1 : Int32) <<< (nI bz &&& 31)) i)) &&& (st ^^^ (-1))))), (5, .int ((flo st ((1 : Int32) <<< (nI bz &&& 31)) i) ||| ((nearI (flo st ((1 : Int32) <<< (nI bz &&& 31)) i)) &&& (st ^^^ (-1))))), (4, .int (nI i)), (0, .int (nI bz)), (1, .int (nI gl)), (2, .int st)]) dX7_length_48 rfl (by decide) rfl ?_
        refine v_inc (v := nI (i + 1)) (lv2 := [(4, .int (nI (i + 1))), (3, .int ((flo st ((1 : Int32) <<< (nI bz &&& 31)) i) ||| ((nearI (flo st ((1 : Int32) <<< (nI bz &&& 31)) i)) &&& (st ^^^ (-1))))), (5, .int ((flo st ((1 : Int32) <<< (nI bz &&& 31)) i) ||| ((nearI (flo st ((1 : Int32) <<< (nI bz &&& 31)) i)) &&& (st ^^^ (-1))))), (0, .int (nI bz)), (1, .int (nI gl)), (2, .int st)]) dX7_length_49 2 rfl (nx_inc rfl) (by decide) rfl ?_
        refine v_goto (tgt := 7) dX7_length_52 (by decide) ?_
        refine v_sub (lv2 := [(4, .int (nI (i + 1))), (3, .int ((flo st ((1 : Int32) <<< (nI bz &&& 31)) i) ||| ((nearI (flo st ((1 : Int32) <<< (nI bz &&& 31)) i)) &&& (st ^^^ (-1))))), (0, .int (nI bz)), (1, .int (nI gl)), (2, .int st)]) [0, 1, 3, 4, 5] rfl ?_
        refine v_lv (lv2 := [(4, .int (nI (i + 1))), (3, .int (flo st ((1 : Int32) <<< (nI bz &&& 31)) (i + 1))), (0, .int (nI bz)), (1, .int (nI gl)), (2, .int st)]) (by rfl) ?_
        exact ih (lt_s hinv hno)
      · refine v_bipush (v := (-5)) dX7_length_43 (by decide) ?_
        exact v_iret hr dX7_length_45 (psi (len_stop hbz hgl (lt_s hinv hno) h6) rfl)
    · have hyes : hb (flo st ((1 : Int32) <<< (nI bz &&& 31)) i) gl := Classical.byContradiction (fun q => h4 ((hb_z (by omega)).mpr q))
      refine v_iload dX7_length_22 0 rfl ?_
      exact v_iret hr dX7_length_24 (psi (len_hit hbz hgl hi hinv hyes) rfl)
set_option maxRecDepth 100000 in
set_option maxHeartbeats 400000 in
theorem c_X7_reach {g : Gl} {I : Ty} {L : TL} {na nt ni m : Nat} {nl : Nat → Nat} (bz : Nat) (st : Int32) (hbz : bz < 16) : Ct g yX7_reach cX7_reach 4 (some .int) 1 0 0 [.int (nI bz), .int st] I L (RT na nt ni) (NT nl) (NB + m) (Ps (some (.int ((flo st ((1 : Int32) <<< (nI bz &&& 31)) 16)))) (I) L (RT na nt ni) (NT nl) (NB + m)) := by
  refine ct_of (by decide +kernel) (Nat.le_of_ble_eq_true rfl) (fun F hnm hr => ?_)
  clear hnm
  show V g F cX7_reach RX7 4 1 0 [(0, .int (nI bz)), (1, .int st)] [] I L (RT na nt ni) (NT nl) (NB + m) 0 0
  refine v_iconst (v := 1) dX7_reach_0 (by decide) ?_
  refine v_iload_n dX7_reach_1 rfl 0 rfl ?_
  refine v_ishl dX7_reach_2 ?_
  refine v_istore_n (lv2 := [(2, .int (1 <<< (nI bz &&& 31))), (0, .int (nI bz)), (1, .int st)]) dX7_reach_3 rfl (by decide) rfl ?_
  refine v_iconst (v := 0) dX7_reach_4 (by decide) ?_
  refine v_istore_n (lv2 := [(3, .int 0), (2, .int (1 <<< (nI bz &&& 31))), (0, .int (nI bz)), (1, .int st)]) dX7_reach_5 rfl (by decide) rfl ?_
  refine v_lv (lv2 := [(3, .int (nI 0)), (2, .int (flo st ((1 : Int32) <<< (nI bz &&& 31)) 0)), (0, .int (nI bz)), (1, .int st)]) (by rfl) ?_
  refine dloop (P := fun i => V g F cX7_reach RX7 4 1 6 [(3, .int (nI i)), (2, .int (flo st ((1 : Int32) <<< (nI bz &&& 31)) i)), (0, .int (nI bz)), (1, .int st)] [] I L (RT na nt ni) (NT nl) (NB + m) 0 0) 16 ?_ ?_ 0 (Nat.zero_le _)
  · refine v_iload_n dX7_reach_6 rfl 0 rfl ?_
    refine v_bipush (v := 16) dX7_reach_7 (by decide) ?_
    refine v_icmp_geN (a := 16) (b := 16) (tgt := 29) dX7_reach_9 (by decide) rfl rfl (by omega) (by omega) (fun h1 => ?_) (fun h => by exfalso; omega)
    refine v_iload_n dX7_reach_29 rfl 1 rfl ?_
    exact v_iret hr dX7_reach_30 (psi (by rfl) rfl)
  · intro i hi ih
    refine v_iload_n dX7_reach_6 rfl 0 rfl ?_
    refine v_bipush (v := 16) dX7_reach_7 (by decide) ?_
    refine v_icmp_geN (a := i) (b := 16) (tgt := 29) dX7_reach_9 (by decide) rfl rfl (by omega) (by omega) (fun h => by exfalso; omega) (fun h2 => ?_)
    refine v_iload_n dX7_reach_12 rfl 1 rfl ?_
    refine v_iload_n dX7_reach_13 rfl 1 rfl ?_
    refine v_callSi (As := [.int (flo st ((1 : Int32) <<< (nI bz &&& 31)) i)]) (rest := [.int (flo st ((1 : Int32) <<< (nI bz &&& 31)) i)]) lk_X7_18 (c_X7_near (flo st ((1 : Int32) <<< (nI bz &&& 31)) i)) dX7_reach_14 rfl rfl (Nat.le_of_ble_eq_true rfl) (by decide) ?_
    refine v_iload_n dX7_reach_17 rfl 3 rfl ?_
    refine v_iconst (v := (-1)) dX7_reach_18 (by decide) ?_
    refine v_ixor dX7_reach_19 ?_
    refine v_iand dX7_reach_20 ?_
    refine v_ior dX7_reach_21 ?_
    refine v_istore_n (lv2 := [(2, .int ((flo st ((1 : Int32) <<< (nI bz &&& 31)) i) ||| ((nearI (flo st ((1 : Int32) <<< (nI bz &&& 31)) i)) &&& (st ^^^ (-1))))), (3, .int (nI i)), (0, .int (nI bz)), (1, .int st)]) dX7_reach_22 rfl (by decide) rfl ?_
    refine v_inc (v := nI (i + 1)) (lv2 := [(3, .int (nI (i + 1))), (2, .int ((flo st ((1 : Int32) <<< (nI bz &&& 31)) i) ||| ((nearI (flo st ((1 : Int32) <<< (nI bz &&& 31)) i)) &&& (st ^^^ (-1))))), (0, .int (nI bz)), (1, .int st)]) dX7_reach_23 1 rfl (nx_inc rfl) (by decide) rfl ?_
    refine v_goto (tgt := 6) dX7_reach_26 (by decide) ?_
    refine v_lv (lv2 := [(3, .int (nI (i + 1))), (2, .int (flo st ((1 : Int32) <<< (nI bz &&& 31)) (i + 1))), (0, .int (nI bz)), (1, .int st)]) (by rfl) ?_
    exact ih
noncomputable def kthV (st : Int32) (bz gl kz : Nat) : Int32 := ifc (lwn st bz gl < 99 ∧ kz < lwn st bz gl) (nI (pth (dst st gl) bz (kz + 1))) (-5)
section
variable {st : Int32} {bz gl kz i : Nat}
theorem kth_no (h : ¬ (lwn st bz gl < 99 ∧ kz < lwn st bz gl)) : (-5 : Int32) = kthV st bz gl kz := (ifc_f h).symm
theorem kth_yes (h : lwn st bz gl < 99 ∧ kz + 1 ≤ lwn st bz gl) : nI (pth (dst st gl) bz (kz + 1)) = kthV st bz gl kz := (ifc_t ⟨h.1, by omega⟩).symm
/-- on the way -/
def onWy (st : Int32) (bz gl i : Nat) : Prop := i = 0 ∨ (lwn st bz gl < 99 ∧ i ≤ lwn st bz gl)
theorem onWy_16 (hb0 : bz < 16) (h : onWy st bz gl i) : pth (dst st gl) bz i < 16 := by
  rcases h with rfl | ⟨h1, h2⟩
  · exact hb0
  · exact (pth_on hb0 h1 i h2).1
theorem onWy_at (hb0 : bz < 16) (h : onWy st bz gl i) (e : pth (dst st gl) bz i = gl) : lwn st bz gl = i := by
  rcases h with rfl | ⟨h1, h2⟩
  · have e : bz = gl := e
    unfold lwn; exact ifc_t e
  · refine Nat.le_antisymm (Nat.not_lt.mp fun q => (pth_ne hb0 h1 q).1 e) h2
theorem onWy_ne (hb0 : bz < 16) (h : onWy st bz gl i) (e : ¬ pth (dst st gl) bz i = gl) : (¬ lwn st bz gl < 99 ∧ fcV st (pth (dst st gl) bz i) gl = -1) ∨ (lwn st bz gl < 99 ∧ i < lwn st bz gl ∧ fcV st (pth (dst st gl) bz i) gl = nI (pth (dst st gl) bz (i + 1)) ∧ pth (dst st gl) bz (i + 1) < 16) := by
  by_cases hl : lwn st bz gl < 99
  · have h2 : i ≤ lwn st bz gl := by rcases h with rfl | h; exact Nat.zero_le _; exact h.2
    have h3 : i < lwn st bz gl := by
      rcases Nat.lt_or_ge i (lwn st bz gl) with q | q
      · exact q
      · exact absurd (by rw [show i = lwn st bz gl by omega]; exact pth_end hb0 hl) e
    exact Or.inr ⟨hl, h3, pth_fc hb0 hl h3⟩
  · have h2 : i = 0 := by rcases h with h | h; exact h; exact absurd h.1 hl
    subst h2
    exact Or.inl ⟨hl, (fc_far hl).2⟩
end
set_option maxRecDepth 100000 in
set_option maxHeartbeats 400000 in
theorem c_X7_kthCell {g : Gl} {I : Ty} {L : TL} {na nt ni m : Nat} {nl : Nat → Nat} (bz : Nat) (gl : Nat) (st : Int32) (kz : Nat) (hbz : bz < 16) (hgl : gl < 16) (hkz : kz < 15) : Ct g yX7_kthCell cX7_kthCell 7 (some .int) 3 0 0 [.int (nI bz), .int (nI gl), .int st, .int (nI kz)] I L (RT na nt ni) (NT nl) (NB + m) (Ps (some (.int (kthV st bz gl kz))) (I) L (RT na nt ni) (NT nl) (NB + m)) := by
  refine ct_of (by decide +kernel) (Nat.le_of_ble_eq_true rfl) (fun F hnm hr => ?_)
  clear hnm
  show V g F cX7_kthCell RX7 7 3 0 [(0, .int (nI bz)), (1, .int (nI gl)), (2, .int st), (3, .int (nI kz))] [] I L (RT na nt ni) (NT nl) (NB + m) 0 0
  refine v_iload_n dX7_kthCell_0 rfl 0 rfl ?_
  refine v_istore (lv2 := [(4, .int (nI bz)), (0, .int (nI bz)), (1, .int (nI gl)), (2, .int st), (3, .int (nI kz))]) dX7_kthCell_1 (by decide) rfl ?_
  refine v_iconst (v := 0) dX7_kthCell_3 (by decide) ?_
  refine v_istore (lv2 := [(5, .int 0), (4, .int (nI bz)), (0, .int (nI bz)), (1, .int (nI gl)), (2, .int st), (3, .int (nI kz))]) dX7_kthCell_4 (by decide) rfl ?_
  refine v_lv (lv2 := [(5, .int (nI 0)), (4, .int (nI (pth (dst st gl) bz 0))), (0, .int (nI bz)), (1, .int (nI gl)), (2, .int st), (3, .int (nI kz))]) (by rfl) ?_
  refine dloop (P := fun i => (onWy st bz gl i) → V g F cX7_kthCell RX7 7 3 6 [(5, .int (nI i)), (4, .int (nI (pth (dst st gl) bz i))), (0, .int (nI bz)), (1, .int (nI gl)), (2, .int st), (3, .int (nI kz))] [] I L (RT na nt ni) (NT nl) (NB + m) 0 0) (kz + 1) ?_ ?_ 0 (Nat.zero_le _) (Or.inl rfl)
  · intro hinv
    refine v_iload dX7_kthCell_6 0 rfl ?_
    refine v_iload_n dX7_kthCell_8 rfl 5 rfl ?_
    refine v_icmp_gtN (a := (kz + 1)) (b := kz) (tgt := 56) dX7_kthCell_9 (by decide) rfl rfl (by omega) (by omega) (fun h1 => ?_) (fun h => by exfalso; omega)
    refine v_iload dX7_kthCell_56 1 rfl ?_
    exact v_iret hr dX7_kthCell_58 (psi (by rcases hinv with q | q; (exact absurd q (Nat.succ_ne_zero _)); exact kth_yes q) rfl)
  · intro i hi ih
    intro hinv
    have hp16 := onWy_16 hbz hinv
    refine v_iload dX7_kthCell_6 0 rfl ?_
    refine v_iload_n dX7_kthCell_8 rfl 5 rfl ?_
    refine v_icmp_gtN (a := i) (b := kz) (tgt := 56) dX7_kthCell_9 (by decide) rfl rfl (by omega) (by omega) (fun h => by exfalso; omega) (fun h2 => ?_)
    refine v_iload dX7_kthCell_12 0 rfl ?_
    refine v_bipush (v := 16) dX7_kthCell_14 (by decide) ?_
    refine v_icmp_geN (a := i) (b := 16) (tgt := 56) dX7_kthCell_16 (by decide) rfl rfl (by omega) (by omega) (fun h => by exfalso; omega) (fun h3 => ?_)
    refine v_iload dX7_kthCell_19 1 rfl ?_
    refine v_iload_n dX7_kthCell_21 rfl 3 rfl ?_
    refine v_icmp_neN (a := (pth (dst st gl) bz i)) (b := gl) (tgt := 29) dX7_kthCell_22 (by decide) rfl rfl (by omega) (by omega) (fun h5 => ?_) (fun h5 => ?_)
    · rcases onWy_ne hbz hinv h5 with ⟨hfar, hfe⟩ | ⟨hl9, hil, hfe, hn16⟩
      · refine v_iload dX7_kthCell_29 1 rfl ?_
        refine v_iload_n dX7_kthCell_31 rfl 3 rfl ?_
        refine v_iload_n dX7_kthCell_32 rfl 4 rfl ?_
        refine v_callSi (As := [.int (nI (pth (dst st gl) bz i)), .int (nI gl), .int st]) (rest := []) lk_X7_24 (c_X7_firstCell (pth (dst st gl) bz i) gl st (by omega) (by omega)) dX7_kthCell_33 rfl rfl (Nat.le_of_ble_eq_true rfl) (by decide) ?_
        refine v_is (y := (-1)) hfe ?_
        refine v_istore (lv2 := [(6, .int (-1)), (5, .int (nI i)), (4, .int (nI (pth (dst st gl) bz i))), (0, .int (nI bz)), (1, .int (nI gl)), (2, .int st), (3, .int (nI kz))]) dX7_kthCell_36 (by decide) rfl ?_
        refine v_iload dX7_kthCell_38 0 rfl ?_
        refine v_if_ge (tgt := 46) dX7_kthCell_40 (by decide) (fun h6 => by first | exact absurd h6 (by decide) | exact absurd (by decide) h6) (fun _ => ?_)
        refine v_bipush (v := (-5)) dX7_kthCell_43 (by decide) ?_
        exact v_iret hr dX7_kthCell_45 (psi (kth_no (fun q => hfar q.1)) rfl)
      · refine v_iload dX7_kthCell_29 1 rfl ?_
        refine v_iload_n dX7_kthCell_31 rfl 3 rfl ?_
        refine v_iload_n dX7_kthCell_32 rfl 4 rfl ?_
        refine v_callSi (As := [.int (nI (pth (dst st gl) bz i)), .int (nI gl), .int st]) (rest := []) lk_X7_24 (c_X7_firstCell (pth (dst st gl) bz i) gl st (by omega) (by omega)) dX7_kthCell_33 rfl rfl (Nat.le_of_ble_eq_true rfl) (by decide) ?_
        refine v_is (y := nI (pth (dst st gl) bz (i + 1))) hfe ?_
        refine v_istore (lv2 := [(6, .int (nI (pth (dst st gl) bz (i + 1)))), (5, .int (nI i)), (4, .int (nI (pth (dst st gl) bz i))), (0, .int (nI bz)), (1, .int (nI gl)), (2, .int st), (3, .int (nI kz))]) dX7_kthCell_36 (by decide) rfl ?_
        refine v_iload dX7_kthCell_38 0 rfl ?_
        refine v_if_geN (a := (pth (dst st gl) bz (i + 1))) (tgt := 46) dX7_kthCell_40 (by decide) rfl (by omega) (fun h7 => ?_) (fun h => by exfalso; omega)
        refine v_iload dX7_kthCell_46 0 rfl ?_
        refine v_istore (lv2 := [(4, .int (nI (pth (dst st gl) bz (i + 1)))), (6, .int (nI (pth (dst st gl) bz (i + 1)))), (5, .int (nI i)), (0, .int (nI bz)), (1, .int (nI gl)), (2, .int st), (3, .int (nI kz))]) dX7_kthCell_48 (by decide) rfl ?_
        refine v_inc (v := nI (i + 1)) (lv2 := [(5, .int (nI (i + 1))), (4, .int (nI (pth (dst st gl) bz (i + 1)))), (6, .int (nI (pth (dst st gl) bz (i + 1)))), (0, .int (nI bz)), (1, .int (nI gl)), (2, .int st), (3, .int (nI kz))]) dX7_kthCell_50 2 rfl (nx_inc rfl) (by decide) rfl ?_
        refine v_goto (tgt := 6) dX7_kthCell_53 (by decide) ?_
        refine v_sub (lv2 := [(5, .int (nI (i + 1))), (4, .int (nI (pth (dst st gl) bz (i + 1)))), (0, .int (nI bz)), (1, .int (nI gl)), (2, .int st), (3, .int (nI kz))]) [0, 1, 3, 4, 5, 6] rfl ?_
        exact ih (Or.inr ⟨hl9, hil⟩)
    · have hat := onWy_at hbz hinv h5
      refine v_iconst (v := (-1)) dX7_kthCell_25 (by decide) ?_
      refine v_goto (tgt := 36) dX7_kthCell_26 (by decide) ?_
      refine v_istore (lv2 := [(6, .int (-1)), (5, .int (nI i)), (4, .int (nI (pth (dst st gl) bz i))), (0, .int (nI bz)), (1, .int (nI gl)), (2, .int st), (3, .int (nI kz))]) dX7_kthCell_36 (by decide) rfl ?_
      refine v_iload dX7_kthCell_38 0 rfl ?_
      refine v_if_ge (tgt := 46) dX7_kthCell_40 (by decide) (fun h8 => by first | exact absurd h8 (by decide) | exact absurd (by decide) h8) (fun _ => ?_)
      refine v_bipush (v := (-5)) dX7_kthCell_43 (by decide) ?_
      exact v_iret hr dX7_kthCell_45 (psi (kth_no (fun q => by omega)) rfl)
