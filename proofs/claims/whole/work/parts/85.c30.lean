def mpG33 (I : Ty) (y : ZG) : Ty := va_up (mpH33 I y.1) 38 y.2
def mgG33 (I : Ty) : ZG := (mgH33 I, I 38)
section
variable (go : Int32) (ga kd vv rw : Nat → Int32) (pp : Nat) (ns : (Int32 → Int32) → Int32 → Int32) (fd : Int32) (less : Int32 → Int32)
noncomputable def plan1C (y : ZG) (wt q : Nat) : ZG :=
  ifc (wt = 0) (chr1 go ga kd vv y.2 rw pp ns fd less y.1, y.2) (ifc (wt = 1) (((y.1.1.1, va_up y.1.1.2.1 q 0, y.1.1.2.2), y.1.2), y.2)
    (ifc (wt = 2) (((y.1.1.1, va_up y.1.1.2.1 (q / 10) (y.1.1.2.1 (q / 10) ||| chF y.1.1.2.1 ((1 : Int32) <<< (nI (q % 10) &&& 31)) pp), y.1.1.2.2), y.1.2), y.2) (y.1, va_up y.2 q (-1))))
end
def plnOK (pp wt : Nat) (x : Int32) : Prop := wt = 0 ∨ ∃ q, x = nI q ∧ q < 2 ^ 31 ∧ ((wt = 1 ∧ q < pp) ∨ (wt = 2 ∧ q / 10 < pp ∧ q % 10 < pp) ∨ (wt = 3 ∧ q < pp))
theorem mpG33_0 (I : Ty) : I = va_up (mpG33 I (mgG33 I)) 42 (I 42) := by
  show I = va_up (va_up (mpH33 I (mgH33 I)) 38 (I 38)) 42 (I 42)
  have h := St33_0 I
  have e : va_up (mpH33 I (mgH33 I)) 42 (I 42) = I := h.symm
  have e2 : va_up (va_up (mpH33 I (mgH33 I)) 38 (I 38)) 42 (I 42) = va_up (va_up (mpH33 I (mgH33 I)) 42 (I 42)) 38 (I 38) := by
    funext a; unfold va_up
    by_cases h1 : a = 42
    · subst h1; rfl
    · simp [h1]
  rw [e2, e, up_self]
set_option maxRecDepth 100000 in
set_option maxHeartbeats 2000000 in
theorem c_goPl0 {g : Gl} {I : Ty} {L : TL} {na nt ni m : Nat} {nl : Nat → Nat} (qz : Int32) (pp : Nat) (hpp : pp ≤ 6) (hpe : I 33 1 = nI pp) (hxm : 2 * nt ≤ m) (hsl : sln nl nt ≤ 100) (hok : okSt (I (scell nt)) (sln nl nt)) (hS : okS (mgC33 I)) (hch : ChOK (I 39)) (hG : okG (I 38)) : Ct g yX2_goPlanned cX2_goPlanned 4 none 5 0 0 [.ref (g.1 + 33), .int 0, .int qz] I L (RT na nt ni) (NT nl) (NB + m) (Pfa 42 none (mpG33 I (plan1C (I 33 11) (I 34) (I 35) (I 36) (I 41) pp (nsW I nl nt) (I (ncell nt) 0) (lessC 1000000) (mgG33 I) 0 0)) L (RT na nt ni) (NT nl) (NB + m)) := by
  refine ct_of (by decide +kernel) (Nat.le_of_ble_eq_true rfl) (fun F hnm hr => ?_)
  clear hnm
  show V g F cX2_goPlanned RX2 4 5 0 [(0, .ref (g.1 + 33)), (1, .int 0), (2, .int qz)] [] I L (RT na nt ni) (NT nl) (NB + m) 0 0
  refine v_iload_n dX2_goPlanned_0 rfl 1 rfl ?_
  refine v_if_ne (tgt := 12) dX2_goPlanned_1 (by decide) (fun h1 => by first | exact absurd h1 (by decide) | exact absurd (by decide) h1) (fun _ => ?_)
  refine v_aload_n dX2_goPlanned_4 rfl 0 rfl ?_
  refine v_iconst (v := 1) dX2_goPlanned_5 (by decide) ?_
  refine v_ldc dX2_goPlanned_6 uc_X2_99 ?_
  refine v_callVfv (As := [.int 1, .int 1000000]) (rest := []) lk_X2_100 (c_goHours_33 (I := I) 1 1000000 pp hpp hpe (by decide) hxm hsl hok hS hch hG) dX2_goPlanned_8 rfl (ltn rfl) rfl rfl (Nat.le_of_ble_eq_true rfl) (by decide) (fun fq2 => ?_)
  exact v_vret hr dX2_goPlanned_11 (⟨rfl, ⟨fq2, (by unfold plan1C; rw [ifc_t rfl]; show _ = va_up (va_up (mpH33 I _) 38 (I 38)) 42 _; have e : va_up (mpH33 I (chr1 (I 33 11) (I 34) (I 35) (I 36) (I 38) (I 41) pp (nsW I nl nt) (I (ncell nt) 0) (lessC 1000000) (mgH33 I))) 38 (I 38) = mpH33 I (chr1 (I 33 11) (I 34) (I 35) (I 36) (I 38) (I 41) pp (nsW I nl nt) (I (ncell nt) 0) (lessC 1000000) (mgH33 I)) := up_self (mpH33 I (chr1 (I 33 11) (I 34) (I 35) (I 36) (I 38) (I 41) pp (nsW I nl nt) (I (ncell nt) 0) (lessC 1000000) (mgH33 I))) 38; exact (congrArg (fun q => va_up q 42 _) e).symm)⟩, rfl, rfl, rfl, rfl⟩)
set_option maxRecDepth 100000 in
set_option maxHeartbeats 2000000 in
theorem c_goPl1 {g : Gl} {I : Ty} {L : TL} {na nt ni m : Nat} {nl : Nat → Nat} (qz : Nat) (pp : Nat) (hpp : pp ≤ 6) (hpe : I 33 1 = nI pp) (hq1 : qz < pp) : Ct g yX2_goPlanned cX2_goPlanned 4 none 5 0 0 [.ref (g.1 + 33), .int 1, .int (nI qz)] I L (RT na nt ni) (NT nl) (NB + m) (Pfa 42 none (mpG33 I (plan1C (I 33 11) (I 34) (I 35) (I 36) (I 41) pp (nsW I nl nt) (I (ncell nt) 0) (lessC 1000000) (mgG33 I) 1 qz)) L (RT na nt ni) (NT nl) (NB + m)) := by
  refine ct_of (by decide +kernel) (Nat.le_of_ble_eq_true rfl) (fun F hnm hr => ?_)
  clear hnm
  show V g F cX2_goPlanned RX2 4 5 0 [(0, .ref (g.1 + 33)), (1, .int 1), (2, .int (nI qz))] [] I L (RT na nt ni) (NT nl) (NB + m) 0 0
  refine v_iload_n dX2_goPlanned_0 rfl 1 rfl ?_
  refine v_if_ne (tgt := 12) dX2_goPlanned_1 (by decide) (fun _ => ?_) (fun h1 => by first | exact absurd h1 (by decide) | exact absurd (by decide) h1)
  refine v_iload_n dX2_goPlanned_12 rfl 1 rfl ?_
  refine v_iconst (v := 2) dX2_goPlanned_13 (by decide) ?_
  refine v_icmp_ne (tgt := 24) dX2_goPlanned_14 (by decide) (fun _ => ?_) (fun h2 => by first | exact absurd h2 (by decide) | exact absurd (by decide) h2)
  refine v_iload_n dX2_goPlanned_24 rfl 2 rfl ?_
  refine v_istore_n (lv2 := [(3, .int (nI qz)), (0, .ref (g.1 + 33)), (1, .int 1), (2, .int (nI qz))]) dX2_goPlanned_25 rfl (by decide) rfl ?_
  refine v_iload_n dX2_goPlanned_26 rfl 0 rfl ?_
  refine v_if_ltN (a := qz) (tgt := 38) dX2_goPlanned_27 (by decide) rfl (by omega) (fun h => by exfalso; omega) (fun h3 => ?_)
  refine v_iload_n dX2_goPlanned_30 rfl 0 rfl ?_
  refine v_aload_n dX2_goPlanned_31 rfl 1 rfl ?_
  refine v_get (v := .int (I 33 1)) fa_X2_53 dX2_goPlanned_32 rfl (by decide) (ltn rfl) rfl ?_
  refine v_is hpe ?_
  refine v_icmp_ltN (a := qz) (b := pp) (tgt := 39) dX2_goPlanned_35 (by decide) rfl rfl (by omega) (by omega) (fun h4 => ?_) (fun h => by exfalso; omega)
  refine v_iload_n dX2_goPlanned_39 rfl 2 rfl ?_
  refine v_iconst (v := 1) dX2_goPlanned_40 (by decide) ?_
  refine v_icmp_ne (tgt := 54) dX2_goPlanned_41 (by decide) (fun h5 => by first | exact absurd h5 (by decide) | exact absurd (by decide) h5) (fun _ => ?_)
  refine v_aload_n dX2_goPlanned_44 rfl 1 rfl ?_
  refine v_get (v := .ref (g.1 + 39)) fa_X2_27 dX2_goPlanned_45 rfl (by decide) (ltn rfl) rfl ?_
  refine v_iload_n dX2_goPlanned_48 rfl 0 rfl ?_
  refine v_iconst (v := 0) dX2_goPlanned_49 (by decide) ?_
  refine v_iastore (len := 6) (j := qz) dX2_goPlanned_50 rfl (ltn rfl) rfl (by decide) rfl (by omega) ?_
  refine v_goto (tgt := 88) dX2_goPlanned_51 (by decide) ?_
  have hI : (wr I 39 qz 0) = va_up (mpG33 I (((I 37, va_up (I 39) qz 0, I 40), I 33 9), I 38)) 42 (I 42) := by
    unfold mpG33 mpH33 mpC33
    funext a
    by_cases h33 : a = 33
    · subst h33; first | rfl | (show _ = va_up _ 9 _; exact (up_self _ _).symm)
    by_cases h37 : a = 37
    · subst h37; first | rfl | (show _ = va_up _ 9 _; exact (up_self _ _).symm)
    by_cases h38 : a = 38
    · subst h38; first | rfl | (show _ = va_up _ 9 _; exact (up_self _ _).symm)
    by_cases h39 : a = 39
    · subst h39; first | rfl | (show _ = va_up _ 9 _; exact (up_self _ _).symm)
    by_cases h40 : a = 40
    · subst h40; first | rfl | (show _ = va_up _ 9 _; exact (up_self _ _).symm)
    by_cases h42 : a = 42
    · subst h42; first | rfl | (show _ = va_up _ 9 _; exact (up_self _ _).symm)
    simp [h33, h37, h38, h39, h40, h42, va_up]
  exact v_vret hr dX2_goPlanned_88 (⟨rfl, ⟨I 42, (by unfold plan1C; rw [ifc_f (by decide), ifc_t rfl]; exact hI)⟩, rfl, rfl, rfl, rfl⟩)
set_option maxRecDepth 100000 in
set_option maxHeartbeats 2000000 in
theorem c_goPl2 {g : Gl} {I : Ty} {L : TL} {na nt ni m : Nat} {nl : Nat → Nat} (qz : Nat) (pp : Nat) (hpp : pp ≤ 6) (hpe : I 33 1 = nI pp) (hq0 : qz < 2 ^ 31) (hq1 : qz / 10 < pp) (hq2 : qz % 10 < pp) : Ct g yX2_goPlanned cX2_goPlanned 4 none 5 0 0 [.ref (g.1 + 33), .int 2, .int (nI qz)] I L (RT na nt ni) (NT nl) (NB + m) (Pfa 42 none (mpG33 I (plan1C (I 33 11) (I 34) (I 35) (I 36) (I 41) pp (nsW I nl nt) (I (ncell nt) 0) (lessC 1000000) (mgG33 I) 2 qz)) L (RT na nt ni) (NT nl) (NB + m)) := by
  refine ct_of (by decide +kernel) (Nat.le_of_ble_eq_true rfl) (fun F hnm hr => ?_)
  clear hnm
  show V g F cX2_goPlanned RX2 4 5 0 [(0, .ref (g.1 + 33)), (1, .int 2), (2, .int (nI qz))] [] I L (RT na nt ni) (NT nl) (NB + m) 0 0
  refine v_iload_n dX2_goPlanned_0 rfl 1 rfl ?_
  refine v_if_ne (tgt := 12) dX2_goPlanned_1 (by decide) (fun _ => ?_) (fun h1 => by first | exact absurd h1 (by decide) | exact absurd (by decide) h1)
  refine v_iload_n dX2_goPlanned_12 rfl 1 rfl ?_
  refine v_iconst (v := 2) dX2_goPlanned_13 (by decide) ?_
  refine v_icmp_ne (tgt := 24) dX2_goPlanned_14 (by decide) (fun h2 => by first | exact absurd h2 (by decide) | exact absurd (by decide) h2) (fun _ => ?_)
  refine v_iload_n dX2_goPlanned_17 rfl 2 rfl ?_
  refine v_bipush (v := 10) dX2_goPlanned_18 (by decide) ?_
  refine v_idiv dX2_goPlanned_20 (by decide) ?_
  refine v_is (nx_div rfl (d := 10) (by omega) (by decide) (by decide)) ?_
  refine v_goto (tgt := 25) dX2_goPlanned_21 (by decide) ?_
  refine v_istore_n (lv2 := [(3, .int (nI (qz / 10))), (0, .ref (g.1 + 33)), (1, .int 2), (2, .int (nI qz))]) dX2_goPlanned_25 rfl (by decide) rfl ?_
  refine v_iload_n dX2_goPlanned_26 rfl 0 rfl ?_
  refine v_if_ltN (a := (qz / 10)) (tgt := 38) dX2_goPlanned_27 (by decide) rfl (by omega) (fun h => by exfalso; omega) (fun h3 => ?_)
  refine v_iload_n dX2_goPlanned_30 rfl 0 rfl ?_
  refine v_aload_n dX2_goPlanned_31 rfl 1 rfl ?_
  refine v_get (v := .int (I 33 1)) fa_X2_53 dX2_goPlanned_32 rfl (by decide) (ltn rfl) rfl ?_
  refine v_is hpe ?_
  refine v_icmp_ltN (a := (qz / 10)) (b := pp) (tgt := 39) dX2_goPlanned_35 (by decide) rfl rfl (by omega) (by omega) (fun h4 => ?_) (fun h => by exfalso; omega)
  refine v_iload_n dX2_goPlanned_39 rfl 2 rfl ?_
  refine v_iconst (v := 1) dX2_goPlanned_40 (by decide) ?_
  refine v_icmp_ne (tgt := 54) dX2_goPlanned_41 (by decide) (fun _ => ?_) (fun h5 => by first | exact absurd h5 (by decide) | exact absurd (by decide) h5)
  refine v_iload_n dX2_goPlanned_54 rfl 2 rfl ?_
  refine v_iconst (v := 3) dX2_goPlanned_55 (by decide) ?_
  refine v_icmp_ne (tgt := 69) dX2_goPlanned_56 (by decide) (fun _ => ?_) (fun h6 => by first | exact absurd h6 (by decide) | exact absurd (by decide) h6)
  refine v_aload_n dX2_goPlanned_69 rfl 1 rfl ?_
  refine v_get (v := .ref (g.1 + 39)) fa_X2_27 dX2_goPlanned_70 rfl (by decide) (ltn rfl) rfl ?_
  refine v_iload_n dX2_goPlanned_73 rfl 0 rfl ?_
  refine v_dup2 dX2_goPlanned_74 rfl rfl ?_
  refine v_iaload (len := 6) (j := (qz / 10)) dX2_goPlanned_75 rfl (ltn rfl) rfl (by decide) rfl (by omega) ?_
  refine v_aload_n dX2_goPlanned_76 rfl 1 rfl ?_
  refine v_iconst (v := 1) dX2_goPlanned_77 (by decide) ?_
  refine v_iload_n dX2_goPlanned_78 rfl 3 rfl ?_
  refine v_bipush (v := 10) dX2_goPlanned_79 (by decide) ?_
  refine v_irem dX2_goPlanned_81 (by decide) ?_
  refine v_is (nx_rem rfl (d := 10) (by omega) (by decide) (by decide)) ?_
  refine v_ishl dX2_goPlanned_82 ?_
  refine v_callVi (As := [.int (1 <<< (nI (qz % 10) &&& 31))]) (rest := [.int (I 39 (qz / 10)), .int (nI (qz / 10)), .ref (g.1 + 39)]) lk_X2_103 (c_chartsOf_33 (I := I) (1 <<< (nI (qz % 10) &&& 31)) pp hpp hpe) dX2_goPlanned_83 rfl (ltn rfl) rfl rfl (Nat.le_of_ble_eq_true rfl) (by decide) ?_
  refine v_ior dX2_goPlanned_86 ?_
  refine v_iastore (len := 6) (j := (qz / 10)) dX2_goPlanned_87 rfl (ltn rfl) rfl (by decide) rfl (by omega) ?_
  have hI : (wr I 39 (qz / 10) (I 39 (qz / 10) ||| (chF (I 39) ((1 : Int32) <<< (nI (qz % 10) &&& 31)) pp))) = va_up (mpG33 I (((I 37, va_up (I 39) (qz / 10) (I 39 (qz / 10) ||| chF (I 39) ((1 : Int32) <<< (nI (qz % 10) &&& 31)) pp), I 40), I 33 9), I 38)) 42 (I 42) := by
    unfold mpG33 mpH33 mpC33
    funext a
    by_cases h33 : a = 33
    · subst h33; first | rfl | (show _ = va_up _ 9 _; exact (up_self _ _).symm)
    by_cases h37 : a = 37
    · subst h37; first | rfl | (show _ = va_up _ 9 _; exact (up_self _ _).symm)
    by_cases h38 : a = 38
    · subst h38; first | rfl | (show _ = va_up _ 9 _; exact (up_self _ _).symm)
    by_cases h39 : a = 39
    · subst h39; first | rfl | (show _ = va_up _ 9 _; exact (up_self _ _).symm)
    by_cases h40 : a = 40
    · subst h40; first | rfl | (show _ = va_up _ 9 _; exact (up_self _ _).symm)
    by_cases h42 : a = 42
    · subst h42; first | rfl | (show _ = va_up _ 9 _; exact (up_self _ _).symm)
    simp [h33, h37, h38, h39, h40, h42, va_up]
  exact v_vret hr dX2_goPlanned_88 (⟨rfl, ⟨I 42, (by unfold plan1C; rw [ifc_f (by decide), ifc_f (by decide), ifc_t rfl]; exact hI)⟩, rfl, rfl, rfl, rfl⟩)
set_option maxRecDepth 100000 in
set_option maxHeartbeats 2000000 in
theorem c_goPl3 {g : Gl} {I : Ty} {L : TL} {na nt ni m : Nat} {nl : Nat → Nat} (qz : Nat) (pp : Nat) (hpp : pp ≤ 6) (hpe : I 33 1 = nI pp) (hq1 : qz < pp) : Ct g yX2_goPlanned cX2_goPlanned 4 none 5 0 0 [.ref (g.1 + 33), .int 3, .int (nI qz)] I L (RT na nt ni) (NT nl) (NB + m) (Pfa 42 none (mpG33 I (plan1C (I 33 11) (I 34) (I 35) (I 36) (I 41) pp (nsW I nl nt) (I (ncell nt) 0) (lessC 1000000) (mgG33 I) 3 qz)) L (RT na nt ni) (NT nl) (NB + m)) := by
  refine ct_of (by decide +kernel) (Nat.le_of_ble_eq_true rfl) (fun F hnm hr => ?_)
  clear hnm
  show V g F cX2_goPlanned RX2 4 5 0 [(0, .ref (g.1 + 33)), (1, .int 3), (2, .int (nI qz))] [] I L (RT na nt ni) (NT nl) (NB + m) 0 0
  refine v_iload_n dX2_goPlanned_0 rfl 1 rfl ?_
  refine v_if_ne (tgt := 12) dX2_goPlanned_1 (by decide) (fun _ => ?_) (fun h1 => by first | exact absurd h1 (by decide) | exact absurd (by decide) h1)
  refine v_iload_n dX2_goPlanned_12 rfl 1 rfl ?_
  refine v_iconst (v := 2) dX2_goPlanned_13 (by decide) ?_
  refine v_icmp_ne (tgt := 24) dX2_goPlanned_14 (by decide) (fun _ => ?_) (fun h2 => by first | exact absurd h2 (by decide) | exact absurd (by decide) h2)
  refine v_iload_n dX2_goPlanned_24 rfl 2 rfl ?_
  refine v_istore_n (lv2 := [(3, .int (nI qz)), (0, .ref (g.1 + 33)), (1, .int 3), (2, .int (nI qz))]) dX2_goPlanned_25 rfl (by decide) rfl ?_
  refine v_iload_n dX2_goPlanned_26 rfl 0 rfl ?_
  refine v_if_ltN (a := qz) (tgt := 38) dX2_goPlanned_27 (by decide) rfl (by omega) (fun h => by exfalso; omega) (fun h3 => ?_)
  refine v_iload_n dX2_goPlanned_30 rfl 0 rfl ?_
  refine v_aload_n dX2_goPlanned_31 rfl 1 rfl ?_
  refine v_get (v := .int (I 33 1)) fa_X2_53 dX2_goPlanned_32 rfl (by decide) (ltn rfl) rfl ?_
  refine v_is hpe ?_
  refine v_icmp_ltN (a := qz) (b := pp) (tgt := 39) dX2_goPlanned_35 (by decide) rfl rfl (by omega) (by omega) (fun h4 => ?_) (fun h => by exfalso; omega)
  refine v_iload_n dX2_goPlanned_39 rfl 2 rfl ?_
  refine v_iconst (v := 1) dX2_goPlanned_40 (by decide) ?_
  refine v_icmp_ne (tgt := 54) dX2_goPlanned_41 (by decide) (fun _ => ?_) (fun h5 => by first | exact absurd h5 (by decide) | exact absurd (by decide) h5)
  refine v_iload_n dX2_goPlanned_54 rfl 2 rfl ?_
  refine v_iconst (v := 3) dX2_goPlanned_55 (by decide) ?_
  refine v_icmp_ne (tgt := 69) dX2_goPlanned_56 (by decide) (fun h6 => by first | exact absurd h6 (by decide) | exact absurd (by decide) h6) (fun _ => ?_)
  refine v_aload_n dX2_goPlanned_59 rfl 1 rfl ?_
  refine v_get (v := .ref (g.1 + 38)) fa_X2_24 dX2_goPlanned_60 rfl (by decide) (ltn rfl) rfl ?_
  refine v_iload_n dX2_goPlanned_63 rfl 0 rfl ?_
  refine v_iconst (v := (-1)) dX2_goPlanned_64 (by decide) ?_
  refine v_iastore (len := 6) (j := qz) dX2_goPlanned_65 rfl (ltn rfl) rfl (by decide) rfl (by omega) ?_
  refine v_goto (tgt := 88) dX2_goPlanned_66 (by decide) ?_
  have hI : (wr I 38 qz (-1)) = va_up (mpG33 I (((I 37, I 39, I 40), I 33 9), va_up (I 38) qz (-1))) 42 (I 42) := by
    unfold mpG33 mpH33 mpC33
    funext a
    by_cases h33 : a = 33
    · subst h33; first | rfl | (show _ = va_up _ 9 _; exact (up_self _ _).symm)
    by_cases h37 : a = 37
    · subst h37; first | rfl | (show _ = va_up _ 9 _; exact (up_self _ _).symm)
    by_cases h38 : a = 38
    · subst h38; first | rfl | (show _ = va_up _ 9 _; exact (up_self _ _).symm)
    by_cases h39 : a = 39
    · subst h39; first | rfl | (show _ = va_up _ 9 _; exact (up_self _ _).symm)
    by_cases h40 : a = 40
    · subst h40; first | rfl | (show _ = va_up _ 9 _; exact (up_self _ _).symm)
    by_cases h42 : a = 42
    · subst h42; first | rfl | (show _ = va_up _ 9 _; exact (up_self _ _).symm)
    simp [h33, h37, h38, h39, h40, h42, va_up]
  exact v_vret hr dX2_goPlanned_88 (⟨rfl, ⟨I 42, (by unfold plan1C; rw [ifc_f (by decide), ifc_f (by decide), ifc_f (by decide)]; exact hI)⟩, rfl, rfl, rfl, rfl⟩)
