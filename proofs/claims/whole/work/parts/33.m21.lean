abbrev ZG : Type := ZH × (Nat → Int32)
def mputG (I : Ty) (y : ZG) : Ty := va_up (mputH I y.1) 70 y.2
def mgetG (I : Ty) : ZG := (mgetH I, I 70)
noncomputable def plan1 (ga kd vv rw : Nat → Int32) (pp : Nat) (ns : (Int32 → Int32) → Int32 → Int32) (fd : Int32) (less : Int32 → Int32) (y : ZG) (wt q : Nat) : ZG :=
  ifc (wt = 0) (hour1 ga kd vv y.2 rw pp ns fd less y.1, y.2) (ifc (wt = 1) (((y.1.1.1, va_up y.1.1.2.1 q 0, y.1.1.2.2), y.1.2), y.2)
    (ifc (wt = 2) (((y.1.1.1, va_up y.1.1.2.1 (q / 10) (y.1.1.2.1 (q / 10) ||| y.1.1.2.1 (q % 10)), y.1.1.2.2), y.1.2), y.2) (y.1, va_up y.2 q (-5))))
theorem mputG_H (I : Ty) (z : ZH) : mputH I z = mputG I (z, I 70) := by
  have e : (mputH I z) 70 = I 70 := rfl
  show _ = va_up (mputH I z) 70 (I 70)
  rw [← e, up_self]
theorem mputG_self (I : Ty) : mputG I (mgetG I) = I := by
  show mputG I (mgetH I, I 70) = I
  rw [← mputG_H, mputH_self]
theorem mputG_scr (I : Ty) (f h : Nat → Int32) (y : ZG) : mputG (scr I f h) y = scr (mputG I y) f h := by
  show va_up (mputH (scr I f h) y.1) 70 y.2 = scr (va_up (mputH I y.1) 70 y.2) f h
  rw [mputH_scr]
  unfold scr
  funext j; unfold va_up
  by_cases h1 : j = 70
  · subst h1; rfl
  · simp [h1]
theorem mputG_mputG (I : Ty) (y z : ZG) : mputG (mputG I y) z = mputG I z := by
  show va_up (mputH (va_up (mputH I y.1) 70 y.2) z.1) 70 z.2 = va_up (mputH I z.1) 70 z.2
  have e : ∀ j, j ≠ 70 → mputH (va_up (mputH I y.1) 70 y.2) z.1 j = mputH I z.1 j := by
    intro j hj
    have h2 := congrFun (mputH_mputH I y.1 z.1) j
    rw [← h2]
    unfold mputH mput
    unfold va_up
    by_cases h1 : j = 65
    · subst h1; rfl
    · by_cases h2 : j = 72
      · subst h2; rfl
      · by_cases h3 : j = 71
        · subst h3; rfl
        · by_cases h4 : j = 69
          · subst h4; rfl
          · simp [hj, h1, h2, h3, h4]
  funext j
  by_cases hj : j = 70
  · subst hj; rw [up_at, up_at]
  · rw [up_off _ _ hj, up_off _ _ hj, e j hj]
theorem mputG_norm (I : Ty) (f h f2 h2 : Nat → Int32) (y z : ZG) : scr (mputG (scr (mputG I y) f h) z) f2 h2 = scr (mputG I z) f2 h2 := by rw [mputG_scr, mputG_mputG, scr_scr]
theorem mputG_ch (I : Ty) (a : Nat → Int32) : va_up I 71 a = mputG I (((I 69, a, I 72), I 65 1), I 70) := by
  rw [← mputG_H]
  show va_up I 71 a = va_up (va_up (va_up (va_up I 69 (I 69)) 71 a) 72 (I 72)) 65 (va_up (I 65) 1 (I 65 1))
  rw [up_self, up_self]
  funext j; unfold va_up
  by_cases h1 : j = 65
  · subst h1; rfl
  · by_cases h2 : j = 72
    · subst h2; rfl
    · simp [h1, h2]
theorem mputG_go (I : Ty) (a : Nat → Int32) : va_up I 70 a = mputG I (mgetH I, a) := by
  show _ = va_up (mputH I (mgetH I)) 70 a
  rw [mputH_self]
set_option maxRecDepth 100000 in
set_option maxHeartbeats 400000 in
theorem c_plan0 {g : Gl} {I : Ty} {L : TL} {na nt ni m : Nat} {nl : Nat → Nat} (qz : Nat) (hq : qz < 2 ^ 31) (pp : Nat) (hpp : pp ≤ 6) (hpe : I 65 0 = nI pp) (hN : mOK I) (hS : okS (mget I)) (hG : okG (I 70)) : Ct g yX9_goPlan cX9_goPlan 3 none 6 0 0 [.ref (g.1 + 65), .int (nI 0), .int (nI qz)] I L (RT na nt ni) (NT nl) (NB + m) (Pq none (mputG I (plan1 (I 66) (I 67) (I 68) (I 73) pp (msum I) (mfade I) (lessM (I 65 29)) (mgetG I) 0 qz)) L (RT na nt ni) (NT nl) (NB + m)) := by
  refine ct_of (by decide +kernel) (Nat.le_of_ble_eq_true rfl) (fun F hnm hr => ?_)
  clear hnm
  show V g F cX9_goPlan RX9 3 6 0 [(0, .ref (g.1 + 65)), (1, .int 0), (2, .int (nI qz))] [] I L (RT na nt ni) (NT nl) (NB + m) 0 0
  refine v_iload_n dX9_goPlan_0 rfl 1 rfl ?_
  refine v_if_ne (tgt := 8) dX9_goPlan_1 (by decide) (fun h1 => by first | exact absurd h1 (by decide) | exact absurd (by decide) h1) (fun _ => ?_)
  refine v_aload_n dX9_goPlan_4 rfl 0 rfl ?_
  refine v_callVqv (As := []) (rest := []) lk_X9_349 (c_X9_goHour pp hpp hpe hN hS hG) dX9_goPlan_5 rfl (ltn rfl) rfl rfl (Nat.le_of_ble_eq_true rfl) (by decide) (fun fq2 hq3 => ?_)
  refine v_iload_n dX9_goPlan_8 rfl 1 rfl ?_
  refine v_iconst (v := 1) dX9_goPlan_9 (by decide) ?_
  refine v_icmp_ne (tgt := 20) dX9_goPlan_10 (by decide) (fun _ => ?_) (fun h4 => by first | exact absurd h4 (by decide) | exact absurd (by decide) h4)
  refine v_iload_n dX9_goPlan_20 rfl 1 rfl ?_
  refine v_iconst (v := 2) dX9_goPlan_21 (by decide) ?_
  refine v_icmp_ne (tgt := 46) dX9_goPlan_22 (by decide) (fun _ => ?_) (fun h5 => by first | exact absurd h5 (by decide) | exact absurd (by decide) h5)
  refine v_iload_n dX9_goPlan_46 rfl 1 rfl ?_
  refine v_iconst (v := 3) dX9_goPlan_47 (by decide) ?_
  refine v_icmp_ne (tgt := 59) dX9_goPlan_48 (by decide) (fun _ => ?_) (fun h6 => by first | exact absurd h6 (by decide) | exact absurd (by decide) h6)
  exact v_vret hr dX9_goPlan_59 (⟨rfl, ⟨fq2, hq3, by rw [mputG_H]; exact congrArg (fun z => scr (mputG I z) fq2 hq3) (ifc_t rfl).symm⟩, rfl, rfl, rfl, rfl⟩)
set_option maxRecDepth 100000 in
set_option maxHeartbeats 400000 in
theorem c_plan1 {g : Gl} {I : Ty} {L : TL} {na nt ni m : Nat} {nl : Nat → Nat} (qz : Nat) (hq : qz < 6) (pp : Nat) (hpp : pp ≤ 6) (hpe : I 65 0 = nI pp) (hN : mOK I) (hS : okS (mget I)) (hG : okG (I 70)) : Ct g yX9_goPlan cX9_goPlan 3 none 6 0 0 [.ref (g.1 + 65), .int (nI 1), .int (nI qz)] I L (RT na nt ni) (NT nl) (NB + m) (Pq none (mputG I (plan1 (I 66) (I 67) (I 68) (I 73) pp (msum I) (mfade I) (lessM (I 65 29)) (mgetG I) 1 qz)) L (RT na nt ni) (NT nl) (NB + m)) := by
  refine ct_of (by decide +kernel) (Nat.le_of_ble_eq_true rfl) (fun F hnm hr => ?_)
  clear hnm
  show V g F cX9_goPlan RX9 3 6 0 [(0, .ref (g.1 + 65)), (1, .int 1), (2, .int (nI qz))] [] I L (RT na nt ni) (NT nl) (NB + m) 0 0
  refine v_iload_n dX9_goPlan_0 rfl 1 rfl ?_
  refine v_if_ne (tgt := 8) dX9_goPlan_1 (by decide) (fun _ => ?_) (fun h1 => by first | exact absurd h1 (by decide) | exact absurd (by decide) h1)
  refine v_iload_n dX9_goPlan_8 rfl 1 rfl ?_
  refine v_iconst (v := 1) dX9_goPlan_9 (by decide) ?_
  refine v_icmp_ne (tgt := 20) dX9_goPlan_10 (by decide) (fun h2 => by first | exact absurd h2 (by decide) | exact absurd (by decide) h2) (fun _ => ?_)
  refine v_aload_n dX9_goPlan_13 rfl 0 rfl ?_
  refine v_get (v := .ref (g.1 + 71)) fa_X9_32 dX9_goPlan_14 rfl (by decide) (ltn rfl) rfl ?_
  refine v_iload_n dX9_goPlan_17 rfl 2 rfl ?_
  refine v_iconst (v := 0) dX9_goPlan_18 (by decide) ?_
  refine v_iastore (len := 6) (j := qz) dX9_goPlan_19 rfl (ltn rfl) rfl (by decide) rfl (by omega) ?_
  refine v_iload_n dX9_goPlan_20 rfl 1 rfl ?_
  refine v_iconst (v := 2) dX9_goPlan_21 (by decide) ?_
  refine v_icmp_ne (tgt := 46) dX9_goPlan_22 (by decide) (fun _ => ?_) (fun h3 => by first | exact absurd h3 (by decide) | exact absurd (by decide) h3)
  refine v_iload_n dX9_goPlan_46 rfl 1 rfl ?_
  refine v_iconst (v := 3) dX9_goPlan_47 (by decide) ?_
  refine v_icmp_ne (tgt := 59) dX9_goPlan_48 (by decide) (fun _ => ?_) (fun h4 => by first | exact absurd h4 (by decide) | exact absurd (by decide) h4)
  exact v_vret hr dX9_goPlan_59 (⟨rfl, ⟨_, _, (mputG_ch I _).trans ((congrArg (mputG I) ((ifc_f (by decide)).trans (ifc_t rfl)).symm).trans (scr_self _))⟩, rfl, rfl, rfl, rfl⟩)
set_option maxRecDepth 100000 in
set_option maxHeartbeats 400000 in
theorem c_plan2 {g : Gl} {I : Ty} {L : TL} {na nt ni m : Nat} {nl : Nat → Nat} (qz : Nat) (hq0 : qz < 2 ^ 31) (hq : qz / 10 < 6) (hq2 : qz % 10 < 6) (pp : Nat) (hpp : pp ≤ 6) (hpe : I 65 0 = nI pp) (hN : mOK I) (hS : okS (mget I)) (hG : okG (I 70)) : Ct g yX9_goPlan cX9_goPlan 3 none 6 0 0 [.ref (g.1 + 65), .int (nI 2), .int (nI qz)] I L (RT na nt ni) (NT nl) (NB + m) (Pq none (mputG I (plan1 (I 66) (I 67) (I 68) (I 73) pp (msum I) (mfade I) (lessM (I 65 29)) (mgetG I) 2 qz)) L (RT na nt ni) (NT nl) (NB + m)) := by
  refine ct_of (by decide +kernel) (Nat.le_of_ble_eq_true rfl) (fun F hnm hr => ?_)
  clear hnm
  show V g F cX9_goPlan RX9 3 6 0 [(0, .ref (g.1 + 65)), (1, .int 2), (2, .int (nI qz))] [] I L (RT na nt ni) (NT nl) (NB + m) 0 0
  refine v_iload_n dX9_goPlan_0 rfl 1 rfl ?_
  refine v_if_ne (tgt := 8) dX9_goPlan_1 (by decide) (fun _ => ?_) (fun h1 => by first | exact absurd h1 (by decide) | exact absurd (by decide) h1)
  refine v_iload_n dX9_goPlan_8 rfl 1 rfl ?_
  refine v_iconst (v := 1) dX9_goPlan_9 (by decide) ?_
  refine v_icmp_ne (tgt := 20) dX9_goPlan_10 (by decide) (fun _ => ?_) (fun h2 => by first | exact absurd h2 (by decide) | exact absurd (by decide) h2)
  refine v_iload_n dX9_goPlan_20 rfl 1 rfl ?_
  refine v_iconst (v := 2) dX9_goPlan_21 (by decide) ?_
  refine v_icmp_ne (tgt := 46) dX9_goPlan_22 (by decide) (fun h3 => by first | exact absurd h3 (by decide) | exact absurd (by decide) h3) (fun _ => ?_)
  refine v_aload_n dX9_goPlan_25 rfl 0 rfl ?_
  refine v_get (v := .ref (g.1 + 71)) fa_X9_32 dX9_goPlan_26 rfl (by decide) (ltn rfl) rfl ?_
  refine v_iload_n dX9_goPlan_29 rfl 2 rfl ?_
  refine v_bipush (v := 10) dX9_goPlan_30 (by decide) ?_
  refine v_idiv dX9_goPlan_32 (by decide) ?_
  refine v_is (nx_div rfl (d := 10) (by omega) (by decide) (by decide)) ?_
  refine v_dup2 dX9_goPlan_33 rfl rfl ?_
  refine v_iaload (len := 6) (j := (qz / 10)) dX9_goPlan_34 rfl (ltn rfl) rfl (by decide) rfl (by omega) ?_
  refine v_aload_n dX9_goPlan_35 rfl 0 rfl ?_
  refine v_get (v := .ref (g.1 + 71)) fa_X9_32 dX9_goPlan_36 rfl (by decide) (ltn rfl) rfl ?_
  refine v_iload_n dX9_goPlan_39 rfl 2 rfl ?_
  refine v_bipush (v := 10) dX9_goPlan_40 (by decide) ?_
  refine v_irem dX9_goPlan_42 (by decide) ?_
  refine v_is (nx_rem rfl (d := 10) (by omega) (by decide) (by decide)) ?_
  refine v_iaload (len := 6) (j := (qz % 10)) dX9_goPlan_43 rfl (ltn rfl) rfl (by decide) rfl (by omega) ?_
  refine v_ior dX9_goPlan_44 ?_
  refine v_iastore (len := 6) (j := (qz / 10)) dX9_goPlan_45 rfl (ltn rfl) rfl (by decide) rfl (by omega) ?_
  refine v_iload_n dX9_goPlan_46 rfl 1 rfl ?_
  refine v_iconst (v := 3) dX9_goPlan_47 (by decide) ?_
  refine v_icmp_ne (tgt := 59) dX9_goPlan_48 (by decide) (fun _ => ?_) (fun h4 => by first | exact absurd h4 (by decide) | exact absurd (by decide) h4)
  exact v_vret hr dX9_goPlan_59 (⟨rfl, ⟨_, _, (mputG_ch I _).trans ((congrArg (mputG I) ((ifc_f (by decide)).trans ((ifc_f (by decide)).trans (ifc_t rfl))).symm).trans (scr_self _))⟩, rfl, rfl, rfl, rfl⟩)
set_option maxRecDepth 100000 in
set_option maxHeartbeats 400000 in
theorem c_plan3 {g : Gl} {I : Ty} {L : TL} {na nt ni m : Nat} {nl : Nat → Nat} (qz : Nat) (hq : qz < 6) (pp : Nat) (hpp : pp ≤ 6) (hpe : I 65 0 = nI pp) (hN : mOK I) (hS : okS (mget I)) (hG : okG (I 70)) : Ct g yX9_goPlan cX9_goPlan 3 none 6 0 0 [.ref (g.1 + 65), .int (nI 3), .int (nI qz)] I L (RT na nt ni) (NT nl) (NB + m) (Pq none (mputG I (plan1 (I 66) (I 67) (I 68) (I 73) pp (msum I) (mfade I) (lessM (I 65 29)) (mgetG I) 3 qz)) L (RT na nt ni) (NT nl) (NB + m)) := by
  refine ct_of (by decide +kernel) (Nat.le_of_ble_eq_true rfl) (fun F hnm hr => ?_)
  clear hnm
  show V g F cX9_goPlan RX9 3 6 0 [(0, .ref (g.1 + 65)), (1, .int 3), (2, .int (nI qz))] [] I L (RT na nt ni) (NT nl) (NB + m) 0 0
  refine v_iload_n dX9_goPlan_0 rfl 1 rfl ?_
  refine v_if_ne (tgt := 8) dX9_goPlan_1 (by decide) (fun _ => ?_) (fun h1 => by first | exact absurd h1 (by decide) | exact absurd (by decide) h1)
  refine v_iload_n dX9_goPlan_8 rfl 1 rfl ?_
  refine v_iconst (v := 1) dX9_goPlan_9 (by decide) ?_
  refine v_icmp_ne (tgt := 20) dX9_goPlan_10 (by decide) (fun _ => ?_) (fun h2 => by first | exact absurd h2 (by decide) | exact absurd (by decide) h2)
  refine v_iload_n dX9_goPlan_20 rfl 1 rfl ?_
  refine v_iconst (v := 2) dX9_goPlan_21 (by decide) ?_
  refine v_icmp_ne (tgt := 46) dX9_goPlan_22 (by decide) (fun _ => ?_) (fun h3 => by first | exact absurd h3 (by decide) | exact absurd (by decide) h3)
  refine v_iload_n dX9_goPlan_46 rfl 1 rfl ?_
  refine v_iconst (v := 3) dX9_goPlan_47 (by decide) ?_
  refine v_icmp_ne (tgt := 59) dX9_goPlan_48 (by decide) (fun h4 => by first | exact absurd h4 (by decide) | exact absurd (by decide) h4) (fun _ => ?_)
  refine v_aload_n dX9_goPlan_51 rfl 0 rfl ?_
  refine v_get (v := .ref (g.1 + 70)) fa_X9_29 dX9_goPlan_52 rfl (by decide) (ltn rfl) rfl ?_
  refine v_iload_n dX9_goPlan_55 rfl 2 rfl ?_
  refine v_bipush (v := (-5)) dX9_goPlan_56 (by decide) ?_
  refine v_iastore (len := 6) (j := qz) dX9_goPlan_58 rfl (ltn rfl) rfl (by decide) rfl (by omega) ?_
  exact v_vret hr dX9_goPlan_59 (⟨rfl, ⟨_, _, (mputG_go I _).trans ((congrArg (mputG I) ((ifc_f (by decide)).trans ((ifc_f (by decide)).trans (ifc_f (by decide)))).symm).trans (scr_self _))⟩, rfl, rfl, rfl, rfl⟩)
def planOK (wt q : Nat) : Prop := q < 2 ^ 31 ∧ (wt = 0 ∨ (wt = 1 ∧ q < 6) ∨ (wt = 2 ∧ q / 10 < 6 ∧ q % 10 < 6) ∨ (wt = 3 ∧ q < 6))
theorem c_X9_goPlan {g : Gl} {I : Ty} {L : TL} {na nt ni m : Nat} {nl : Nat → Nat} (wz qz : Nat) (hq : planOK wz qz) (pp : Nat) (hpp : pp ≤ 6) (hpe : I 65 0 = nI pp) (hN : mOK I) (hS : okS (mget I)) (hG : okG (I 70)) : Ct g yX9_goPlan cX9_goPlan 3 none 6 0 0 [.ref (g.1 + 65), .int (nI wz), .int (nI qz)] I L (RT na nt ni) (NT nl) (NB + m) (Pq none (mputG I (plan1 (I 66) (I 67) (I 68) (I 73) pp (msum I) (mfade I) (lessM (I 65 29)) (mgetG I) wz qz)) L (RT na nt ni) (NT nl) (NB + m)) := by
  obtain ⟨h0, rfl | ⟨rfl, h1⟩ | ⟨rfl, h1, h2⟩ | ⟨rfl, h1⟩⟩ := hq
  · exact c_plan0 qz h0 pp hpp hpe hN hS hG
  · exact c_plan1 qz h1 pp hpp hpe hN hS hG
  · exact c_plan2 qz h0 h1 h2 pp hpp hpe hN hS hG
  · exact c_plan3 qz h1 pp hpp hpe hN hS hG
