theorem jk_coder : LkO RJ0 335 yJ0_coder_7d493 cJ0_coder_7d493 1 (some .byte) 0 := ⟨⟨uw_t (tb2 (i := 200) rfl) rfl, uw_t (tb2 (i := 203) rfl) rfl, uw_t (tb1 (i := 14) rfl) rfl, ⟨by decide +kernel, by decide +kernel⟩, by decide +kernel, by decide⟩, uw_t (tb2 (i := 201) rfl) rfl, uw_t (tb2 (i := 202) rfl) rfl, rfl⟩
theorem jk_isLatin1 : LkO RJ0 492 yJ0_isLatin1_aae02 cJ0_isLatin1_aae02 1 (some .boolean) 0 := ⟨⟨uw_t (tb2 (i := 210) rfl) rfl, uw_t (tb2 (i := 213) rfl) rfl, uw_t (tb1 (i := 14) rfl) rfl, ⟨by decide +kernel, by decide +kernel⟩, by decide +kernel, by decide⟩, uw_t (tb2 (i := 211) rfl) rfl, uw_t (tb2 (i := 212) rfl) rfl, rfl⟩
theorem jk_l1charAt : LkS RJ0 495 yJ1_charAt_3b067 cJ1_charAt_3b067 2 (some .char) 2 := ⟨⟨uw_t (tb2 (i := 214) rfl) rfl, uw_t (tb2 (i := 216) rfl) rfl, uw_t (tb1 (i := 15) rfl) rfl, ⟨by decide +kernel, by decide +kernel⟩, by decide +kernel, by decide⟩, uw_t (tb2 (i := 215) rfl) rfl⟩
theorem jk_scheck : LkS RJ1 9 yJ0_checkIndex_df160 cJ0_checkIndex_df160 2 none 2 := ⟨⟨uw_t (tb2 (i := 217) rfl) rfl, uw_t (tb2 (i := 219) rfl) rfl, uw_t (tb1 (i := 14) rfl) rfl, ⟨by decide +kernel, by decide +kernel⟩, by decide +kernel, by decide⟩, uw_t (tb2 (i := 218) rfl) rfl⟩
theorem jk_pcheck : LkS RJ0 1059 yJ3_checkIndex_8e157 cJ3_checkIndex_8e157 3 (some .int) 3 := ⟨⟨uw_t (tb2 (i := 222) rfl) rfl, uw_t (tb2 (i := 224) rfl) rfl, uw_t (tb1 (i := 16) rfl) rfl, ⟨by decide +kernel, by decide +kernel⟩, by decide +kernel, by decide⟩, uw_t (tb2 (i := 223) rfl) rfl⟩
theorem jk_slen : LkO RX4 93 yJ0_length_8abf5 cJ0_length_8abf5 1 (some .int) 0 := ⟨⟨uw_t (tb2 (i := 196) rfl) rfl, uw_t (tb2 (i := 199) rfl) rfl, uw_t (tb1 (i := 14) rfl) rfl, ⟨by decide +kernel, by decide +kernel⟩, by decide +kernel, by decide⟩, uw_t (tb2 (i := 197) rfl) rfl, uw_t (tb2 (i := 198) rfl) rfl, rfl⟩
theorem jk_scharAt : LkO RX4 97 yJ0_charAt_5068e cJ0_charAt_5068e 2 (some .char) 1 := ⟨⟨uw_t (tb2 (i := 206) rfl) rfl, uw_t (tb2 (i := 209) rfl) rfl, uw_t (tb1 (i := 14) rfl) rfl, ⟨by decide +kernel, by decide +kernel⟩, by decide +kernel, by decide⟩, uw_t (tb2 (i := 207) rfl) rfl, uw_t (tb2 (i := 208) rfl) rfl, rfl⟩
theorem c_coder {g : Gl} {I : Ty} {L : TL} {na nt ni m : Nat} {nl : Nat → Nat} (i : Nat) (hi : i < 5) : Ct g yJ0_coder_7d493 cJ0_coder_7d493 1 (some .byte) 0 0 0 [.ref (g.2.2.2.2.1 i)] I L (RT na nt ni) (NT nl) (NB + m) (Ps (some (.int 0)) I L (RT na nt ni) (NT nl) (NB + m)) := by
  refine ct_of (by decide +kernel) (Nat.le_of_ble_eq_true rfl) (fun F hnm hr => ?_)
  clear hnm
  refine v_compact (uw_t (tb2 (i := 204) rfl) rfl) dJ0_coder_7d493_0 ?_
  refine v_if_eq (tgt := 13) dJ0_coder_7d493_3 (by decide) (fun h => absurd h (by decide)) (fun _ => ?_)
  refine v_aload_n dJ0_coder_7d493_6 rfl 0 rfl ?_
  refine v_getOc hi (uw_t (tb6 (i := 157) rfl) rfl) dJ0_coder_7d493_7 ?_
  refine v_goto (tgt := 14) dJ0_coder_7d493_10 (by decide) ?_
  exact v_zret hr dJ0_coder_7d493_14 rfl (psi rfl rfl)
theorem c_isLatin1 {g : Gl} {I : Ty} {L : TL} {na nt ni m : Nat} {nl : Nat → Nat} (i : Nat) (hi : i < 5) : Ct g yJ0_isLatin1_aae02 cJ0_isLatin1_aae02 1 (some .boolean) 0 0 0 [.ref (g.2.2.2.2.1 i)] I L (RT na nt ni) (NT nl) (NB + m) (Ps (some (.int 1)) I L (RT na nt ni) (NT nl) (NB + m)) := by
  refine ct_of (by decide +kernel) (Nat.le_of_ble_eq_true rfl) (fun F hnm hr => ?_)
  clear hnm
  refine v_compact (uw_t (tb2 (i := 204) rfl) rfl) dJ0_isLatin1_aae02_0 ?_
  refine v_if_eq (tgt := 17) dJ0_isLatin1_aae02_3 (by decide) (fun h => absurd h (by decide)) (fun _ => ?_)
  refine v_aload_n dJ0_isLatin1_aae02_6 rfl 0 rfl ?_
  refine v_getOc hi (uw_t (tb6 (i := 157) rfl) rfl) dJ0_isLatin1_aae02_7 ?_
  refine v_if_ne (tgt := 17) dJ0_isLatin1_aae02_10 (by decide) (fun h => absurd rfl h) (fun _ => ?_)
  refine v_iconst (v := 1) dJ0_isLatin1_aae02_13 (by decide) ?_
  refine v_goto (tgt := 18) dJ0_isLatin1_aae02_14 (by decide) ?_
  exact v_zret hr dJ0_isLatin1_aae02_18 rfl (psi rfl rfl)
theorem c_pcheck {g : Gl} {I : Ty} {L : TL} {na nt ni m : Nat} {nl : Nat → Nat} (a b : Nat) (fv : Value) (hfv : fv = .null ∨ ∃ t, fv = .ref t) (hab : a < b) (hb31 : b < 2 ^ 31) : Ct g yJ3_checkIndex_8e157 cJ3_checkIndex_8e157 3 (some .int) 0 0 0 [.int (nI a), .int (nI b), fv] I L (RT na nt ni) (NT nl) (NB + m) (Ps (some (.int (nI a))) I L (RT na nt ni) (NT nl) (NB + m)) := by
  refine ct_of (by decide +kernel) (by rcases hfv with rfl | ⟨t, rfl⟩ <;> exact Nat.le_of_ble_eq_true rfl) (fun F hnm hr => ?_)
  clear hnm
  have hcat : lv_args 0 [.int (nI a), .int (nI b), fv] = [(0, .int (nI a)), (1, .int (nI b)), (2, fv)] := by
    rcases hfv with rfl | ⟨t, rfl⟩ <;> rfl
  rw [hcat]
  refine v_iload_n dJ3_checkIndex_8e157_0 rfl 0 rfl ?_
  refine v_if_lt (tgt := 9) dJ3_checkIndex_8e157_1 (by decide) (fun h => absurd h (nI_pos (by omega))) (fun _ => ?_)
  refine v_iload_n dJ3_checkIndex_8e157_4 rfl 0 rfl ?_
  refine v_iload_n dJ3_checkIndex_8e157_5 rfl 1 rfl ?_
  refine v_icmp_lt (tgt := 16) dJ3_checkIndex_8e157_6 (by decide) (fun _ => ?_) (fun h => absurd ((nI_ltI (by omega) (by omega)).mpr hab) h)
  refine v_iload_n dJ3_checkIndex_8e157_16 rfl 0 rfl ?_
  exact v_iret hr dJ3_checkIndex_8e157_17 (psi rfl rfl)
theorem c_scheck {g : Gl} {I : Ty} {L : TL} {na nt ni m : Nat} {nl : Nat → Nat} (a b : Nat) (hab : a < b) (hb31 : b < 2 ^ 31) : Ct g yJ0_checkIndex_df160 cJ0_checkIndex_df160 2 none 1 0 0 [.int (nI a), .int (nI b)] I L (RT na nt ni) (NT nl) (NB + m) (Ps none I L (RT na nt ni) (NT nl) (NB + m)) := by
  refine ct_of (by decide +kernel) (Nat.le_of_ble_eq_true rfl) (fun F hnm hr => ?_)
  clear hnm
  refine v_iload_n (lv := [(0, .int (nI a)), (1, .int (nI b))]) dJ0_checkIndex_df160_0 rfl 0 rfl ?_
  refine v_iload_n dJ0_checkIndex_df160_1 rfl 1 rfl ?_
  refine v_formatter (uw_t (tb2 (i := 220) rfl) rfl) dJ0_checkIndex_df160_2 (fun fv hfv => ?_)
  refine v_callSi (As := [.int (nI a), .int (nI b), fv]) (rest := []) jk_pcheck (c_pcheck a b fv hfv hab hb31) dJ0_checkIndex_df160_5 rfl rfl (Nat.le_of_ble_eq_true rfl) (by decide) ?_
  refine v_pop dJ0_checkIndex_df160_8 rfl ?_
  exact v_vret hr dJ0_checkIndex_df160_9 (psv rfl)
def chS (i k : Nat) : Int32 := (strByt.getD i []).getD k 0
theorem chS_c : ∀ i, i < 5 → ∀ k, k < strLen.getD i 0 → ((chS i k &&& 255).toUInt32 % 65536).toInt32 = chS i k := by decide +kernel
theorem chS_n : ∀ i, i < 5 → ∀ k, k < strLen.getD i 0 → narrow .char (.int (chS i k)) = .int (chS i k) := by
  have h : ∀ i, i < 5 → ∀ k, k < strLen.getD i 0 → (chS i k).toUInt32.toUInt16.toUInt32.toInt32 = chS i k := by decide +kernel
  intro i hi k hk
  show Value.int _ = _
  rw [h i hi k hk]
theorem strLen_6 : ∀ i, i < 5 → strLen.getD i 0 ≤ 6 := by decide
theorem c_l1charAt {g : Gl} {I : Ty} {L : TL} {na nt ni m : Nat} {nl : Nat → Nat} (i k : Nat) (hi : i < 5) (hk : k < strLen.getD i 0) : Ct g yJ1_charAt_3b067 cJ1_charAt_3b067 2 (some .char) 2 0 0 [.ref (g.2.2.2.2.2 i), .int (nI k)] I L (RT na nt ni) (NT nl) (NB + m) (Ps (some (.int (chS i k))) I L (RT na nt ni) (NT nl) (NB + m)) := by
  refine ct_of (by decide +kernel) (Nat.le_of_ble_eq_true rfl) (fun F hnm hr => ?_)
  clear hnm
  have h6 := strLen_6 i hi
  refine v_iload_n (lv := [(0, .ref (g.2.2.2.2.2 i)), (1, .int (nI k))]) dJ1_charAt_3b067_0 rfl 1 rfl ?_
  refine v_aload_n dJ1_charAt_3b067_1 rfl 0 rfl ?_
  refine v_blen hi dJ1_charAt_3b067_2 ?_
  refine v_callSv (As := [.int (nI k), .int (nI (strLen.getD i 0))]) (rest := []) jk_scheck (c_scheck k (strLen.getD i 0) hk (by omega)) dJ1_charAt_3b067_3 rfl rfl (Nat.le_of_ble_eq_true rfl) (by decide) ?_
  refine v_aload_n dJ1_charAt_3b067_6 rfl 0 rfl ?_
  refine v_iload_n dJ1_charAt_3b067_7 rfl 1 rfl ?_
  refine v_bload hi rfl hk (by omega) dJ1_charAt_3b067_8 ?_
  refine v_sipush (v := 255) dJ1_charAt_3b067_9 (by decide) ?_
  refine v_iand dJ1_charAt_3b067_12 ?_
  refine v_i2c dJ1_charAt_3b067_13 (chS_c i hi k hk) ?_
  exact v_zret hr dJ1_charAt_3b067_14 (chS_n i hi k hk) (psi rfl rfl)
theorem c_scharAt {g : Gl} {I : Ty} {L : TL} {na nt ni m : Nat} {nl : Nat → Nat} (i k : Nat) (hi : i < 5) (hk : k < strLen.getD i 0) : Ct g yJ0_charAt_5068e cJ0_charAt_5068e 2 (some .char) 3 0 0 [.ref (g.2.2.2.2.1 i), .int (nI k)] I L (RT na nt ni) (NT nl) (NB + m) (Ps (some (.int (chS i k))) I L (RT na nt ni) (NT nl) (NB + m)) := by
  refine ct_of (by decide +kernel) (Nat.le_of_ble_eq_true rfl) (fun F hnm hr => ?_)
  clear hnm
  refine v_aload_n (lv := [(0, .ref (g.2.2.2.2.1 i)), (1, .int (nI k))]) dJ0_charAt_5068e_0 rfl 0 rfl ?_
  refine v_callO (As := []) (rest := []) hi jk_isLatin1 (c_isLatin1 i hi) dJ0_charAt_5068e_1 rfl rfl (Nat.le_of_ble_eq_true rfl) (by decide) (Nat.zero_le _) (Nat.zero_le _) (fun v I' L' R' N' n' h => ?_)
  obtain ⟨rfl, rfl, rfl, rfl, rfl, rfl⟩ := h
  show V g F _ _ _ _ _ _ [.int 1] _ _ _ _ _ _ _
  refine v_if_eq (tgt := 16) dJ0_charAt_5068e_4 (by decide) (fun h => absurd h (by decide)) (fun _ => ?_)
  refine v_aload_n dJ0_charAt_5068e_7 rfl 0 rfl ?_
  refine v_getOv hi (uw_t (tb6 (i := 156) rfl) rfl) dJ0_charAt_5068e_8 ?_
  refine v_iload_n dJ0_charAt_5068e_11 rfl 1 rfl ?_
  refine v_callSi (As := [.ref (g.2.2.2.2.2 i), .int (nI k)]) (rest := []) jk_l1charAt (c_l1charAt i k hi hk) dJ0_charAt_5068e_12 rfl rfl (Nat.le_of_ble_eq_true rfl) (by decide) ?_
  exact v_zret hr dJ0_charAt_5068e_15 (chS_n i hi k hk) (psi rfl rfl)
theorem c_slen {g : Gl} {I : Ty} {L : TL} {na nt ni m : Nat} {nl : Nat → Nat} (i : Nat) (hi : i < 5) : Ct g yJ0_length_8abf5 cJ0_length_8abf5 1 (some .int) 1 0 0 [.ref (g.2.2.2.2.1 i)] I L (RT na nt ni) (NT nl) (NB + m) (Ps (some (.int (nI (strLen.getD i 0)))) I L (RT na nt ni) (NT nl) (NB + m)) := by
  refine ct_of (by decide +kernel) (Nat.le_of_ble_eq_true rfl) (fun F hnm hr => ?_)
  clear hnm
  have h6 := strLen_6 i hi
  refine v_aload_n (lv := [(0, .ref (g.2.2.2.2.1 i))]) dJ0_length_8abf5_0 rfl 0 rfl ?_
  refine v_getOv hi (uw_t (tb6 (i := 156) rfl) rfl) dJ0_length_8abf5_1 ?_
  refine v_blen hi dJ0_length_8abf5_4 ?_
  refine v_aload_n dJ0_length_8abf5_5 rfl 0 rfl ?_
  refine v_callO (As := []) (rest := [.int (nI (strLen.getD i 0))]) hi jk_coder (c_coder i hi) dJ0_length_8abf5_6 rfl rfl (Nat.le_of_ble_eq_true rfl) (by decide) (Nat.zero_le _) (Nat.zero_le _) (fun v I' L' R' N' n' h => ?_)
  obtain ⟨rfl, rfl, rfl, rfl, rfl, rfl⟩ := h
  show V g F _ _ _ _ _ _ [.int 0, .int (nI (strLen.getD i 0))] _ _ _ _ _ _ _
  refine v_ishr dJ0_length_8abf5_9 ?_
  refine v_is (y := nI (strLen.getD i 0)) ((pk_shrN (by omega) (0 &&& 31) 0 (by decide)).trans (congrArg nI (Nat.div_one _))) ?_
  exact v_iret hr dJ0_length_8abf5_10 (psi rfl rfl)
