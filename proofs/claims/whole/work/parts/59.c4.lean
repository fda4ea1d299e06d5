section
variable {n : Nat}
theorem bc_all (hn : n < 65536) : bcN n = pop16 n ∧ (n ≠ 0 → lowC n (bcN (lowN n)) = true) := by
  have h := bc_at n hn
  unfold bcT at h
  rw [Bool.and_eq_true, Bool.or_eq_true] at h
  refine ⟨Nat.eq_of_beq_eq_true h.1, fun h0 => ?_⟩
  rcases h.2 with q | q
  · exact absurd (Nat.eq_of_beq_eq_true q) h0
  · exact q
theorem low_ok (hn : n < 65536) (h0 : n ≠ 0) : bcN (lowN n) < 16 ∧ n / 2 ^ bcN (lowN n) % 2 = 1 ∧ n % 2 ^ bcN (lowN n) = 0 := by
  have h := (bc_all hn).2 h0
  generalize bcN (lowN n) = r at h
  unfold lowC at h
  rw [Bool.and_eq_true, Bool.and_eq_true] at h
  exact ⟨Nat.le_of_ble_eq_true h.2.2, Nat.eq_of_beq_eq_true h.1, Nat.eq_of_beq_eq_true h.2.1⟩
theorem bt_nI {k : Nat} (hk : k < 32) : bt (nI n) k = n.testBit k := by
  unfold bt
  show (BitVec.ofNat 32 n).getLsbD k = _
  rw [BitVec.getLsbD_ofNat, decide_eq_true hk, Bool.true_and]
theorem hb_nI {k : Nat} (hk : k < 32) : hb (nI n) k ↔ n / 2 ^ k % 2 = 1 := by
  rw [hb_bt hk, bt_nI hk, Nat.testBit_eq_decide_div_mod_eq, decide_eq_true_eq]
theorem ifc_hbn {k : Nat} (hk : k < 32) : ifc (hb (nI n) k) 1 0 = n / 2 ^ k % 2 := by
  by_cases h : hb (nI n) k
  · rw [ifc_t h]; exact ((hb_nI hk).mp h).symm
  · rw [ifc_f h]; have h2 : ¬ n / 2 ^ k % 2 = 1 := fun q => h ((hb_nI hk).mpr q); omega
theorem bitc_pop : bitc (nI n) 16 = pop16 n := by
  have e : pop16 n = n / 1 % 2 + (n / 2 % 2 + (n / 4 % 2 + (n / 8 % 2 + (n / 16 % 2 + (n / 32 % 2 + (n / 64 % 2 + (n / 128 % 2 + (n / 256 % 2 + (n / 512 % 2 + (n / 1024 % 2 + (n / 2048 % 2 + (n / 4096 % 2 + (n / 8192 % 2 + (n / 16384 % 2 + n / 32768 % 2)))))))))))))) := rfl
  rw [e]
  simp only [bitc, ifc_hbn (show 0 < 32 by omega), ifc_hbn (show 1 < 32 by omega), ifc_hbn (show 2 < 32 by omega), ifc_hbn (show 3 < 32 by omega), ifc_hbn (show 4 < 32 by omega), ifc_hbn (show 5 < 32 by omega), ifc_hbn (show 6 < 32 by omega), ifc_hbn (show 7 < 32 by omega), ifc_hbn (show 8 < 32 by omega), ifc_hbn (show 9 < 32 by omega), ifc_hbn (show 10 < 32 by omega), ifc_hbn (show 11 < 32 by omega), ifc_hbn (show 12 < 32 by omega), ifc_hbn (show 13 < 32 by omega), ifc_hbn (show 14 < 32 by omega), ifc_hbn (show 15 < 32 by omega), Nat.reducePow, Nat.zero_add, Nat.add_assoc]
theorem ush_n {a k : Nat} (ha : a < 2 ^ 32) (hk : k < 32) : ush (nI a) (nI k) = nI (a / 2 ^ k) := pk_ushrN ha (nI k) k (s_u k hk)
theorem bcI1 (hn : n < 65536) : nI n - (ush (nI n) 1 &&& 1431655765) = nI (bc1 n) ∧ bc1 n < 65536 := by
  have e : ush (nI n) 1 &&& 1431655765 = nI (Nat.land (n / 2) 1431655765) := by
    rw [show ush (nI n) 1 = nI (n / 2 ^ 1) from ush_n (by omega) (by decide), show (1431655765 : Int32) = nI 1431655765 from rfl, nx_and]; rfl
  have hl : Nat.land (n / 2) 1431655765 ≤ n / 2 := Nat.and_le_left
  rw [e]
  refine ⟨pk_sub (by omega), ?_⟩
  show n - Nat.land (n / 2) 1431655765 < 65536
  omega
theorem bcI2 (hn : n < 65536) : (nI n &&& 858993459) + (ush (nI n) 2 &&& 858993459) = nI (bc2 n) ∧ bc2 n < 131072 := by
  have e : ush (nI n) 2 &&& 858993459 = nI (Nat.land (n / 4) 858993459) := by
    rw [show ush (nI n) 2 = nI (n / 2 ^ 2) from ush_n (by omega) (by decide), show (858993459 : Int32) = nI 858993459 from rfl, nx_and]; rfl
  have e2 : nI n &&& 858993459 = nI (Nat.land n 858993459) := by rw [show (858993459 : Int32) = nI 858993459 from rfl, nx_and]; rfl
  have hl : Nat.land (n / 4) 858993459 ≤ n / 4 := Nat.and_le_left
  have hl2 : Nat.land n 858993459 ≤ n := Nat.and_le_left
  rw [e, e2]
  refine ⟨nI_add _ _, ?_⟩
  show Nat.land n 858993459 + Nat.land (n / 4) 858993459 < 131072
  omega
theorem bcI3 (hn : n < 131072) : (nI n + ush (nI n) 4) &&& 252645135 = nI (bc3 n) ∧ bc3 n < 262144 := by
  rw [show ush (nI n) 4 = nI (n / 2 ^ 4) from ush_n (by omega) (by decide), nI_add, show (252645135 : Int32) = nI 252645135 from rfl, nx_and]
  refine ⟨rfl, ?_⟩
  have hl : Nat.land (n + n / 16) 252645135 ≤ n + n / 16 := Nat.and_le_left
  show Nat.land (n + n / 16) 252645135 < 262144
  omega
theorem bcI4 (hn : n < 262144) : nI n + ush (nI n) 8 = nI (bc4 n) ∧ bc4 n < 524288 := by
  rw [show ush (nI n) 8 = nI (n / 2 ^ 8) from ush_n (by omega) (by decide), nI_add]
  exact ⟨rfl, by show n + n / 256 < 524288; omega⟩
theorem bcI5 (hn : n < 524288) : nI n + ush (nI n) 16 = nI (bc5 n) := by
  rw [show ush (nI n) 16 = nI (n / 2 ^ 16) from ush_n (by omega) (by decide), nI_add]; rfl
end
/-- the least bit's number -/
def lowR (x : Int32) : Nat := bcN (lowN (tn x))
theorem lowR_ok {x : Int32} (h : inr x 65536) (h0 : ¬ x = 0) : lowR x < 16 ∧ hb x (lowR x) ∧ ∀ j, j < lowR x → ¬ hb x j := by
  obtain ⟨n, rfl, hn, hT, _⟩ := inr_ex h (by omega)
  have hn0 : n ≠ 0 := fun e => h0 (by rw [e]; rfl)
  have h3 := low_ok hn hn0
  unfold lowR
  rw [hT]
  generalize bcN (lowN n) = r at h3
  obtain ⟨a1, a2, a3⟩ := h3
  refine ⟨a1, (hb_nI (by omega)).mpr a2, fun j hj q => ?_⟩
  rw [hb_bt (by omega), bt_nI (by omega)] at q
  have e := Nat.testBit_mod_two_pow n r j
  rw [a3, decide_eq_true hj, q, Nat.zero_testBit] at e
  cases e
theorem lowR_I {x : Int32} (h : inr x 65536) (h0 : ¬ x = 0) : (x &&& -x) - 1 = nI (lowN (tn x)) ∧ inr (nI (lowN (tn x))) 65536 := by
  obtain ⟨n, rfl, hn, hT, _⟩ := inr_ex h (by omega)
  have hn0 : n ≠ 0 := fun e => h0 (by rw [e]; rfl)
  rw [hT]
  have e1 : -(nI n) = nI (4294967296 - n) := by
    have e : nI n + nI (4294967296 - n) = 0 := by rw [nI_add, show n + (4294967296 - n) = 4294967296 by omega]; rfl
    have e2 : -(nI n) + (nI n + nI (4294967296 - n)) = -(nI n) + 0 := by rw [e]
    rw [← Int32.add_assoc, Int32.add_left_neg, Int32.zero_add, Int32.add_zero] at e2
    exact e2.symm
  have hle : Nat.land n (4294967296 - n) ≤ n := Nat.and_le_left
  have hz : Nat.land n (4294967296 - n) ≠ 0 := by
    intro q
    have h4 := low_ok hn hn0
    have e5 : lowN n = 0 := by show Nat.land n (4294967296 - n) - 1 = 0; rw [q]
    rw [e5, show bcN 0 = 0 from rfl] at h4
    have h6 : n % 2 = 1 := by have := h4.2.1; simpa using this
    have h7 : (n &&& (4294967296 - n)).testBit 0 = true := by
      rw [Nat.testBit_and, Nat.testBit_zero, Nat.testBit_zero, decide_eq_true h6, decide_eq_true (show (4294967296 - n) % 2 = 1 by omega)]; rfl
    rw [show n &&& (4294967296 - n) = 0 from q, Nat.zero_testBit] at h7
    cases h7
  rw [e1, nx_and]
  have e8 : nI (n &&& (4294967296 - n)) - 1 = nI ((n &&& (4294967296 - n)) - 1) := pk_sub (a := n &&& (4294967296 - n)) (b := 1) (Nat.pos_of_ne_zero hz)
  have hlow : lowN n = (n &&& (4294967296 - n)) - 1 := rfl
  have hle2 : n &&& (4294967296 - n) ≤ n := hle
  rw [e8, ← hlow]
  refine ⟨rfl, ?_⟩
  rw [inr_of_nI (by rw [hlow]; omega), hlow]
  omega
section
variable {st : Int32} {b gl : Nat}
theorem pth_ne (hb0 : b < 16) (hl : lwn st b gl < 99) {i : Nat} (hi : i < lwn st b gl) : pth (dst st gl) b i ≠ gl ∧ near (dst st gl) (pth (dst st gl) b i) < 99 := by
  cases i with
  | zero =>
    have hne : ¬ b = gl := fun e => by unfold lwn at hi; rw [ifc_t e] at hi; exact absurd hi (Nat.lt_irrefl _)
    refine ⟨hne, ?_⟩
    have hw : lwn st b gl = near (dst st gl) b := ifc_f hne
    show near (dst st gl) b < 99
    omega
  | succ k =>
    obtain ⟨h1, h2⟩ := pth_on hb0 hl k (by omega)
    obtain ⟨h3, h4, h5⟩ := h2 (by omega)
    have hd : dst st gl (pth (dst st gl) b (k + 1)) < 99 := by omega
    have hne : pth (dst st gl) b (k + 1) ≠ gl := by
      intro e
      have hr := (dst_is st gl _ h4).2.2 hd
      have h0 := (dst_is st gl _ h4).2.1 0 ⟨e, e ▸ rch_nb hr⟩
      omega
    have hn := dst_near h4 (rch_nb ((dst_is st gl _ h4).2.2 hd)) hne
    exact ⟨hne, by omega⟩
theorem pth_fc (hb0 : b < 16) (hl : lwn st b gl < 99) {i : Nat} (hi : i < lwn st b gl) : fcV st (pth (dst st gl) b i) gl = nI (pth (dst st gl) b (i + 1)) ∧ pth (dst st gl) b (i + 1) < 16 := by
  obtain ⟨h1, h2⟩ := pth_on hb0 hl i (by omega)
  obtain ⟨h3, h4, h5⟩ := h2 hi
  unfold fcV fstC
  rw [ifc_t (pth_ne hb0 hl hi).2, h3, tn_nI (by omega)]
  exact ⟨rfl, h4⟩
theorem pth_end (hb0 : b < 16) (hl : lwn st b gl < 99) : pth (dst st gl) b (lwn st b gl) = gl := by
  cases hw : lwn st b gl with
  | zero =>
    unfold lwn at hw
    by_cases e : b = gl
    · exact e
    · rw [ifc_f e] at hw
      exfalso
      obtain ⟨k, hk, hn, he⟩ := near_ex (st := st) (gl := gl) (b := b) (by omega)
      omega
  | succ k =>
    obtain ⟨h1, h2⟩ := pth_on hb0 hl k (by omega)
    obtain ⟨h3, h4, h5⟩ := h2 (by omega)
    exact dst_0 (st := st) h4 (by omega)
theorem fc_far (h : ¬ lwn st b gl < 99) : b ≠ gl ∧ fcV st b gl = -1 := by
  have hne : b ≠ gl := fun e => h (by unfold lwn; rw [ifc_t e]; decide)
  refine ⟨hne, ?_⟩
  unfold fcV
  refine ifc_f (fun q => h ?_)
  unfold lwn; rw [ifc_f hne]; exact q
theorem len_hit (hb0 : b < 16) (hg : gl < 16) {i : Nat} (hi : i < 16) (hno : ∀ j, j < i → ¬ hb (flo st ((1 : Int32) <<< (nI b &&& 31)) j) gl) (h : hb (flo st ((1 : Int32) <<< (nI b &&& 31)) i) gl) : nI i = lw st b gl := by
  rw [fwd_hb hb0 _ _ hg, fwd_lwn hb0 hg (by omega)] at h
  have e : lwn st b gl = i := by
    refine Nat.le_antisymm h (Nat.not_lt.mp fun q => ?_)
    have h2 := hno _ q
    rw [fwd_hb hb0 _ _ hg, fwd_lwn hb0 hg (by omega)] at h2
    exact h2 (Nat.le_refl _)
  rw [lw_lwn, e, ifc_t (by omega)]
theorem len_none (hb0 : b < 16) (hg : gl < 16) (hno : ∀ j, j < 16 → ¬ hb (flo st ((1 : Int32) <<< (nI b &&& 31)) j) gl) : (-5 : Int32) = lw st b gl := by
  rw [lw_lwn, ifc_f]
  intro q
  have h1 := lwn_15 hb0 hg q
  have h2 := hno _ (by omega : lwn st b gl < 16)
  rw [fwd_hb hb0 _ _ hg, fwd_lwn hb0 hg (by omega)] at h2
  exact h2 (Nat.le_refl _)
theorem len_stop (hb0 : b < 16) (hg : gl < 16) {i : Nat} (hno : ∀ j, j < i + 1 → ¬ hb (flo st ((1 : Int32) <<< (nI b &&& 31)) j) gl) (h : flo st ((1 : Int32) <<< (nI b &&& 31)) (i + 1) = flo st ((1 : Int32) <<< (nI b &&& 31)) i) : (-5 : Int32) = lw st b gl := by
  refine len_none hb0 hg (fun j _ => ?_)
  rcases Nat.lt_or_ge j (i + 1) with q | q
  · exact hno j q
  · rw [flo_fix h j (by omega)]; exact hno i (by omega)
end
theorem hb_z {x : Int32} {k : Nat} (hk : k < 32) : (x >>> (nI k &&& 31)) &&& 1 = 0 ↔ ¬ hb x k := by
  constructor
  · intro h q
    have h2 : x >>> (nI k &&& 31) &&& 1 = 1 := q
    rw [h] at h2; exact absurd h2 (by decide)
  · intro h
    rw [hb_bt hk] at h
    refine b_ext (fun i hi => ?_)
    by_cases h0 : i = 0
    · subst h0
      rw [b_and, b_sshr k hk x (by omega), if_pos (by omega), Nat.add_zero, Bool.eq_false_iff.mpr h, b_0]; rfl
    · rw [b_and, b_one i hi, decide_eq_false h0, Bool.and_false, b_0]
