set_option maxRecDepth 100000 in
set_option maxHeartbeats 2000000 in
theorem c_X8_pass {g : Gl} {I : Ty} {L : TL} {na nt ni m : Nat} {nl : Nat → Nat} (nz : Int32) (pp : Nat) (hpp : pp ≤ 6) (hpe : I 23 1 = nI pp) (hxm : 2 * na ≤ m) (hsl : sln nl na ≤ 100) (hok : okSt (I (scell na)) (sln nl na)) (hS : okS (mgC23 I)) (hch : ChOK (I 29)) (hG : okG (I 28)) (hh : Nat) (hh9 : hh ≤ 9999) (hhe : I 23 9 = nI hh) : Ct g yX8_pass cX8_pass 2 (some .int) 6 0 0 [.ref (g.1 + 0), .int nz] I L (RT na nt ni) (NT nl) (NB + m) (PZ na ni m nl (some (.int (ifc (inr nz 41) (ifc (hh + tn nz ≤ 9999) ((chrN (I 23 11) (I 24) (I 25) (I 26) (I 28) (I 31) pp (nsW I nl na) (I (ncell na) 0) (lessC 9999) (mgH23 I) (tn nz)).2) (-3)) (-2)))) (ifc (inr nz 41 ∧ hh + tn nz ≤ 9999) (mpH23 I (chrN (I 23 11) (I 24) (I 25) (I 26) (I 28) (I 31) pp (nsW I nl na) (I (ncell na) 0) (lessC 9999) (mgH23 I) (tn nz))) I) L) := by
  refine ct_of (by decide +kernel) (Nat.le_of_ble_eq_true rfl) (fun F hnm hr => ?_)
  clear hnm
  show V g F cX8_pass RX8 2 6 0 [(0, .ref (g.1 + 0)), (1, .int nz)] [] I L (RT na nt ni) (NT nl) (NB + m) 0 0
  refine v_iload_n dX8_pass_0 rfl 1 rfl ?_
  refine v_callSi (As := [.int nz]) (rest := []) lk_X8_165 (c_X8_isHours nz) dX8_pass_1 rfl rfl (Nat.le_of_ble_eq_true rfl) (by decide) ?_
  refine v_ifb_ne (tgt := 10) dX8_pass_4 (by decide) (fun h6 => ?_) (fun h6 => ?_)
  · obtain ⟨P2, rfl, l3, t4, u5⟩ := inr_ex h6 (by omega)
    rw [t4, ifc_t h6] at hr
    refine v_aload_n dX8_pass_10 rfl 0 rfl ?_
    refine v_get (v := .ref (g.1 + 23)) fa_X8_51 dX8_pass_11 rfl (by decide) (ltn rfl) rfl ?_
    refine v_get (v := .int (I 23 9)) fa_X8_152 dX8_pass_14 rfl (by decide) (ltn rfl) rfl ?_
    refine v_is hhe ?_
    refine v_iload_n dX8_pass_17 rfl 1 rfl ?_
    refine v_iadd dX8_pass_18 ?_
    refine v_is (nI_add hh P2) ?_
    refine v_sipush (v := 9999) dX8_pass_19 (by decide) ?_
    refine v_icmp_leN (a := (hh + P2)) (b := 9999) (tgt := 28) dX8_pass_22 (by decide) rfl rfl (by omega) (by omega) (fun h7 => ?_) (fun h7 => ?_)
    · rw [ifc_t h7, ifc_t ⟨h6, h7⟩] at hr
      refine v_aload_n dX8_pass_28 rfl 0 rfl ?_
      refine v_get (v := .ref (g.1 + 23)) fa_X8_51 dX8_pass_29 rfl (by decide) (ltn rfl) rfl ?_
      refine v_iload_n dX8_pass_32 rfl 1 rfl ?_
      refine v_sipush (v := 9999) dX8_pass_33 (by decide) ?_
      refine v_callVfv (As := [.int (nI P2), .int 9999]) (rest := []) lk_X8_168 (c_goHours_23 P2 9999 pp hpp hpe (by omega) hxm hsl hok hS hch hG) dX8_pass_36 rfl (ltn rfl) rfl rfl (Nat.le_of_ble_eq_true rfl) (by decide) (fun fz => ?_)
      refine v_aload_n dX8_pass_39 rfl 0 rfl ?_
      refine v_get (v := .ref (g.1 + 23)) fa_X8_51 dX8_pass_40 rfl (by decide) (ltn rfl) rfl ?_
      refine v_get (v := .int ((va_up (mpH23 I (chrN (I 23 11) (I 24) (I 25) (I 26) (I 28) (I 31) pp (nsW I nl na) (I (ncell na) 0) (lessC 9999) (mgH23 I) P2)) 32 fz) 23 9)) fa_X8_152 dX8_pass_43 rfl (by decide) (ltn rfl) rfl ?_
      exact v_iret hr dX8_pass_46 ⟨rfl, ⟨_, scC_32 _ fz⟩, rfl, ⟨_, rfl⟩, rfl, rfl⟩
    · rw [ifc_f (by omega), ifc_f (fun q => by omega)] at hr
      refine v_bipush (v := (-3)) dX8_pass_25 (by decide) ?_
      exact v_iret hr dX8_pass_27 ⟨rfl, ⟨_, scC_self I⟩, rfl, ⟨_, rfl⟩, rfl, rfl⟩
  · rw [ifc_f h6, ifc_f (fun q => h6 q.1)] at hr
    refine v_bipush (v := (-2)) dX8_pass_7 (by decide) ?_
    exact v_iret hr dX8_pass_9 ⟨rfl, ⟨_, scC_self I⟩, rfl, ⟨_, rfl⟩, rfl, rfl⟩
