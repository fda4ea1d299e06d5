theorem c_nation0 {g : Gl} {I : Ty} {L : TL} {R : TR} {N : TN} {n : Nat} (a t : Nat) (f : Int32) (hk : kd a = 3) (ha : a < n) : Ct g yX3_init cX3_init 3 none 1 0 0 [.ref (g.1 + a), .ref (g.1 + t), .int f] I L R N n (Ps none (wr I a 0 f) L (rput R a 1 t) N n) := by
  refine ct_of (by decide +kernel) (Nat.le_of_ble_eq_true rfl) (fun F hnm hr => ?_)
  have hnm : F.2.2.2.2.2.2.2.2.1.name = "<init>" := hnm
  show V g F cX3_init RX3 3 1 0 [(0, .ref (g.1 + a)), (1, .ref (g.1 + t)), (2, .int f)] [] I L R N n 0 0
  refine v_aload_n dX3_init_0 rfl 0 rfl ?_
  refine v_obj (k := a) ol_X3_1 oim oco dX3_init_1 (by decide) (Nat.le_of_ble_eq_true rfl) ?_
  refine v_aload_n dX3_init_4 rfl 0 rfl ?_
  refine v_aload_n dX3_init_5 rfl 1 rfl ?_
  refine w_putFr (t := t) pf_X3_7 ⟨rfl, rfl⟩ hnm dX3_init_6 hk (by decide) ha (by show 1 < 2; decide) rfl ?_
  refine v_aload_n dX3_init_9 rfl 0 rfl ?_
  refine v_iload_n dX3_init_10 rfl 2 rfl ?_
  refine w_putFi pf_X3_13 hnm dX3_init_11 hk (by decide) ha (by show 0 < 2; decide) rfl ?_
  exact v_vret hr dX3_init_14 ⟨rfl, rfl, rfl, rfl, rfl, rfl⟩
/-- one nation more: its steps' array and itself -/
noncomputable def natI (I : Ty) (c s : Nat) : Ty := va_up (va_up I (NB + 2 * c) (fun j => ifc (j < s) (I 17 j) 0)) (NB + 2 * c + 1) (va_up Zi 0 (I 15 6))
theorem NT_up (nl : Nat → Nat) (c s k : Nat) (h : k < NB + 2 * c) : NT (va_up nl c s) k = NT nl k := by
  unfold NT
  by_cases q : k < 116
  · rw [if_pos q, if_pos q]
  · rw [if_neg q, if_neg q]; exact up_off _ _ (by unfold NB at h; omega)
theorem NT_at (nl : Nat → Nat) (c s : Nat) : NT (va_up nl c s) (NB + 2 * c) = s := by
  unfold NT
  rw [if_neg (by unfold NB; omega), show (NB + 2 * c - 116) / 2 = c by unfold NB; omega]; exact up_at _ _ _
theorem sc_s (c : Nat) : scell (c + 1) = NB + 2 * c := by unfold scell; rw [if_neg (by omega)]; rfl
theorem nc_s (c : Nat) : ncell (c + 1) = NB + 2 * c + 1 := by unfold ncell; rw [if_neg (by omega)]; rfl
theorem v_worldE {g : Gl} {F : Fx} {cc : ByteArray} {own : String} {nL d pc : Nat} {lv : List (Nat × Value)} {st : List Value} {I I2 : Ty} {L L2 : TL} {R R2 : TR} {N N2 : TN} {n kr sr : Nat} (hw : ∀ k, k < n → ent g (I k) (L k) (R k) (N k) (kd k) = ent g (I2 k) (L2 k) (R2 k) (N2 k) (kd k)) (k : V g F cc own nL d pc lv st I2 L2 R2 N2 n kr sr) : V g F cc own nL d pc lv st I L R N n kr sr := by
  intro hF H locs ls kc ks h1 h2 hH hL hl
  exact k hF H locs ls kc ks h1 h2 ⟨hH.1, hH.2.1, fun j hj => by rw [← hw j hj]; exact hH.2.2 j hj⟩ hL hl
theorem c_newNation {g : Gl} {I : Ty} {L : TL} {na nt ni c s : Nat} {nl : Nat → Nat} (hc : c < 6) (hs : s ≤ 100) (hsc : I 15 4 = nI s) : Ct g yX4_newNation cX4_newNation 2 (some (.object RX3)) 2 2 102 [.ref (g.1 + 15)] I L (RT na nt ni) (NT nl) (NB + 2 * c) (Ps (some (.ref (g.1 + (NB + 2 * c + 1)))) (natI I c s) L (RT na nt ni) (NT (va_up nl c s)) (NB + 2 * c + 2)) := by
  refine ct_of (by decide +kernel) (Nat.le_of_ble_eq_true rfl) (fun F hnm hr => ?_)
  clear hnm
  have hk1 : kd (NB + 2 * c) = 9 := by rw [← sc_s]; exact kd_sc _
  have hk2 : kd (NB + 2 * c + 1) = 3 := by rw [← nc_s]; exact kd_nc _
  have hRT : RT na nt ni (NB + 2 * c + 1) 1 = some (NB + 2 * c) := by rw [← nc_s, RT_nc, sc_s]
  have h17 : (17 : Nat) < NB + 2 * c := by unfold NB; omega
  have h15 : (15 : Nat) < NB + 2 * c := by unfold NB; omega
  show V g F cX4_newNation RX4 2 2 0 [(0, .ref (g.1 + 15))] [] I L (RT na nt ni) (NT nl) (NB + 2 * c) 2 102
  refine v_aload_n dX4_newNation_0 rfl 0 rfl ?_
  refine v_get (v := .int (I 15 4)) fa_X4_23 dX4_newNation_1 rfl (by decide) h15 rfl ?_
  refine v_is hsc ?_
  refine v_newi (len := s) (I2 := va_up I (NB + 2 * c) Zi) (L2 := L) (R2 := RT na nt ni) (N2 := NT (va_up nl c s)) ac_int dX4_newNation_4 hk1 rfl (by omega) (NT_at _ _ _) (up_at _ _ _) (fun k hk => ⟨up_off _ _ (by omega), rfl, rfl, NT_up _ _ _ _ hk⟩) (by decide) (by omega) ?_
  refine v_astore_n (lv2 := [(1, .ref (g.1 + (NB + 2 * c))), (0, .ref (g.1 + 15))]) dX4_newNation_6 rfl (by decide) rfl ?_
  refine v_aload_n dX4_newNation_7 rfl 1 rfl ?_
  refine v_get (v := .ref (g.1 + 17)) fa_X4_13 dX4_newNation_8 rfl (by decide) (by omega) rfl ?_
  refine v_iconst (v := 0) dX4_newNation_11 (by decide) ?_
  refine v_aload_n dX4_newNation_12 rfl 0 rfl ?_
  refine v_iconst (v := 0) dX4_newNation_13 (by decide) ?_
  refine v_aload_n dX4_newNation_14 rfl 1 rfl ?_
  refine v_get (v := .int (va_up I (NB + 2 * c) Zi 15 4)) fa_X4_23 dX4_newNation_15 rfl (by decide) (by omega) rfl ?_
  refine v_is (y := nI s) (by rw [up_off _ _ (by omega)]; exact hsc) ?_
  refine v_copyi (n0 := 100) (n1 := s) (sp := 0) (dp := 0) (nn := s) (J := fun j => ifc (j < s) (I 17 j) 0) ar_X4_37 dX4_newNation_18 rfl (by omega) rfl hk1 (by omega) (NT_at _ _ _) (by omega) (by omega) (by decide) (by omega) (by decide) (Nat.le_of_ble_eq_true rfl) (fun j hj => ?_) ?_
  · show ifc (j < s) (I 17 j) 0 = va_cpy (va_up I (NB + 2 * c) Zi 17) _ 0 0 s j
    unfold va_cpy
    rw [if_pos ⟨Nat.zero_le _, by omega⟩, up_off _ _ (by omega), ifc_t hj, Nat.zero_add, Nat.sub_zero]
  refine v_I (I2 := va_up I (NB + 2 * c) (fun j => ifc (j < s) (I 17 j) 0)) (by rw [up_up2]) ?_
  refine v_newo (I2 := va_up (va_up I (NB + 2 * c) (fun j => ifc (j < s) (I 17 j) 0)) (NB + 2 * c + 1) Zi) (L2 := L) (R2 := va_up (RT na nt ni) (NB + 2 * c + 1) Zr) (N2 := NT (va_up nl c s)) nk_X4_43 dX4_newNation_21 hk2 (by decide) (up_at _ _ _) (up_at _ _ _) (fun k hk => ⟨up_off _ _ (by omega), rfl, up_off _ _ (by omega), rfl⟩) (by decide) (by show 2 ≤ 102 - s; omega) ?_
  refine v_dup dX4_newNation_24 rfl ?_
  refine v_aload_n dX4_newNation_25 rfl 0 rfl ?_
  refine v_aload_n dX4_newNation_26 rfl 1 rfl ?_
  refine v_get (v := .int (va_up (va_up I (NB + 2 * c) (fun j => ifc (j < s) (I 17 j) 0)) (NB + 2 * c + 1) Zi 15 6)) fa_X4_26 dX4_newNation_27 rfl (by decide) (by omega) rfl ?_
  refine v_is (y := I 15 6) (by rw [up_off _ _ (by omega), up_off _ _ (by omega)]) ?_
  refine v_callIv (As := [.ref (g.1 + (NB + 2 * c)), .int (I 15 6)]) (rest := [.ref (g.1 + (NB + 2 * c + 1))]) lk_X4_45 (c_nation0 (NB + 2 * c + 1) (NB + 2 * c) (I 15 6) hk2 (by omega)) dX4_newNation_30 rfl rfl (Nat.le_of_ble_eq_true rfl) (by decide) _ _ rfl rfl ?_
  refine v_worldE (I2 := natI I c s) (L2 := L) (R2 := RT na nt ni) (N2 := NT (va_up nl c s)) (fun k hk => ?_) ?_
  · have eI : wr (va_up (va_up I (NB + 2 * c) (fun j => ifc (j < s) (I 17 j) 0)) (NB + 2 * c + 1) Zi) (NB + 2 * c + 1) 0 (I 15 6) = natI I c s := wr_row _ _ _ _ _
    rw [eI]
    by_cases e : k = NB + 2 * c + 1
    · subst e
      rw [hk2]
      unfold rput
      rw [up_at, up_at]
      rw [ent_o (by decide), ent_o (by decide)]
      show Sum.inr (3, [Value.int _, va_rf ((va_up Zr 1 (some (NB + 2 * c)) 1).map (fun q => g.1 + q))]) = Sum.inr (3, [Value.int _, va_rf ((RT na nt ni (NB + 2 * c + 1) 1).map (fun q => g.1 + q))])
      rw [hRT]; rfl
    · unfold rput
      rw [up_off _ _ e, up_off _ _ e]
  exact v_aret hr dX4_newNation_33 ⟨rfl, rfl, rfl, rfl, rfl, rfl⟩
