/-! what is asked: both sides' answers are one -/
/-- the reference's rows are the class's -/
def EQ (M I : Ty) (nl : Nat → Nat) (na : Nat) : Prop := M 66 = I 24 ∧ M 67 = I 25 ∧ M 68 = I 26 ∧ M 69 = I 27 ∧ M 70 = gF (I 28) ∧ M 71 = I 29 ∧ M 72 = I 30 ∧ M 73 = I 31 ∧ M 65 1 = I 23 9 ∧ nsW I nl na = msum M ∧ I (ncell na) 0 = mfade M
/-- the reference's trial, in the class's rows -/
noncomputable def hT (I : Ty) (nl : Nat → Nat) (na pp : Nat) (ga vv sp : Nat → Int32) (k : Nat) : ZH := hrN ga (I 25) vv (gF (I 28)) (I 31) pp (nsW I nl na) (I (ncell na) 0) (lessM 2000000000) ((sp, I 29, I 30), I 23 9) k
section
variable {M I : Ty} {nl : Nat → Nat} {na pp : Nat}
theorem hT_eq (h : EQ M I nl na) (ga vv sp : Nat → Int32) (k : Nat) : hrN ga (M 67) vv (M 70) (M 73) pp (msum M) (mfade M) (lessM 2000000000) ((sp, M 71, M 72), M 65 1) k = hT I nl na pp ga vv sp k := by
  obtain ⟨h0, h1, h2, h3, h4, h5, h6, h7, h8, h9, h10⟩ := h
  unfold hT
  rw [h1, h4, h5, h6, h7, h8, h9, h10]
theorem ch_hT (hpp : pp ≤ 6) (hs : nbd 9999 (mgC23 I)) {ga vv sp : Nat → Int32} {lk : Int32} {k q : Nat} (hk : k ≤ 41) (hq : hb lk q) :
    (chT I nl na pp ga vv sp lk k).1.1 q = (hT I nl na pp ga vv sp k).1.1 q ∧ (chT I nl na pp ga vv sp lk k).1.2.1 q = (hT I nl na pp ga vv sp k).1.2.1 q ∧ (chT I nl na pp ga vv sp lk k).1.2.2 q = (hT I nl na pp ga vv sp k).1.2.2 q :=
  tri_q hpp (s0 := (sp, I 29, I 30)) hs hk hq
theorem wel_eq (h : EQ M I nl na) (p : Nat) : mwel M pp p = fun c => Wl (I 24) (I 25) (I 26) (I 31) pp (nsW I nl na) (I 23 9) (I 27) (I 29) p c := by
  obtain ⟨h0, h1, h2, h3, h4, h5, h6, h7, h8, h9, h10⟩ := h
  funext c
  show Wl (M 66) (M 67) (M 68) (M 73) pp (msum M) (M 65 1) (M 69) (M 71) p c = _
  rw [h0, h1, h2, h3, h5, h7, h8, h9]
theorem hb1 {p : Nat} (hp : p < 6) : hb ((1 : Int32) <<< (nI p &&& 31)) p := (hb_one (by omega) (by omega)).mpr rfl
/-- the hours until one is there, in the class's rows -/
theorem arv_eq (h : EQ M I nl na) (ga : Nat → Int32) (p : Nat) : arvN ga M pp p = ifc (I 28 p < 0) 41 (frst (fun k => (hT I nl na pp ga (I 26) (I 27) k).1.1 p = I 28 p) 41) := by
  have h2 := fun k => hT_eq (pp := pp) h ga (I 26) (I 27) k
  obtain ⟨h0, h1, h3, h4, h5, h6, h7, h8, h9, h10, h11⟩ := h
  unfold arvN
  by_cases hn : I 28 p < 0
  · rw [ifc_t hn, ifc_t (by rw [h5]; exact gF_lt.mpr hn)]
  · rw [ifc_f hn, ifc_f (by rw [h5]; exact fun q => hn (gF_lt.mp q))]
    refine frst_congr (fun k _ => ?_)
    have e : hrN ga (M 67) (M 68) (M 70) (M 73) pp (msum M) (mfade M) (lessM 2000000000) (mgetH M) k = hT I nl na pp ga (I 26) (I 27) k := by
      rw [← h2 k]
      show hrN ga (M 67) (M 68) (M 70) (M 73) pp (msum M) (mfade M) (lessM 2000000000) ((M 69, M 71, M 72), M 65 1) k = _
      rw [h3, h4]
    rw [e, h5, gF_p hn]
theorem chP (hpp : pp ≤ 6) (hs : nbd 9999 (mgC23 I)) {p : Nat} (hp : p < 6) (ga : Nat → Int32) {n : Nat} (hn : n ≤ 41) : frst (fun k => (chT I nl na pp ga (I 26) (I 27) ((1 : Int32) <<< (nI p &&& 31)) k).1.1 p = I 28 p) n = frst (fun k => (hT I nl na pp ga (I 26) (I 27) k).1.1 p = I 28 p) n :=
  frst_congr (fun k hk => by rw [(ch_hT hpp hs (by omega) (hb1 hp)).1])
theorem there_eq (h : EQ M I nl na) (hpp : pp ≤ 6) (hs : nbd 9999 (mgC23 I)) {p : Nat} (hp : p < 6) :
    ifc (arvN (M 66) M pp p < 41) (nI (arvN (M 66) M pp p)) (-5) = ifc (I 28 p < 0) (-5) (frsV (fun k => (chT I nl na pp (I 24) (I 26) (I 27) ((1 : Int32) <<< (nI p &&& 31)) k).1.1 p = I 28 p) 41) := by
  rw [arv_eq h, h.1]
  by_cases hn : I 28 p < 0
  · rw [ifc_t hn, ifc_t hn, ifc_f (by omega)]
  · rw [ifc_f hn, ifc_f hn]
    unfold frsV
    rw [chP hpp hs hp (I 24) (by omega)]
    have := frst_le (fun k => (hT I nl na pp (I 24) (I 26) (I 27) k).1.1 p = I 28 p) 41
    generalize frst (fun k => (hT I nl na pp (I 24) (I 26) (I 27) k).1.1 p = I 28 p) 41 = z at this ⊢
    by_cases q : z = 41
    · rw [ifc_t q, ifc_f (by omega)]
    · rw [ifc_f q, ifc_t (by omega)]
theorem frst_sp (P : Nat → Prop) (n : Nat) : (frst P n = n ∨ P (frst P n)) ∧ ∀ j, j < frst P n → ¬ (j = n ∨ P j) := (frst_ex P n).choose_spec
theorem frst_cut {P : Nat → Prop} {l n : Nat} (hl : l ≤ n) : (frst P n < l → frst P l = frst P n) ∧ (¬ frst P n < l → frst P l = l) := by
  obtain ⟨a, b⟩ := frst_sp P n
  constructor
  · intro h
    exact frst_eq (by omega) (Or.inr (a.resolve_left (by omega))) (fun j hj q => b j hj (Or.inr q))
  · intro h
    exact frst_eq (Nat.le_refl l) (Or.inl rfl) (fun j hj q => b j (by omega) (Or.inr q))
theorem key_eq (h : EQ M I nl na) (hpp : pp ≤ 6) (hs : nbd 9999 (mgC23 I)) {p : Nat} (hp : p < 6) : ∀ c, keyF M pp p c = kyC (fun cq k => (chT I nl na pp (va_up (I 24) cq 9) (I 26) (I 27) ((1 : Int32) <<< (nI p &&& 31)) k).1.1 p = I 28 p) (I 28 p < 0) (ifc (I 28 p < 0) 41 (frst (fun k => (chT I nl na pp (I 24) (I 26) (I 27) ((1 : Int32) <<< (nI p &&& 31)) k).1.1 p = I 28 p) 41)) c
  | 0 => by
    rw [keyF, kyC, arv_eq h, h.1, chP hpp hs hp (I 24) (by omega)]
  | c + 1 => by
    have ih := key_eq h hpp hs hp c
    have hle := keyF_le M pp p c
    rw [keyF, kyC, ← ih, arv_eq h, h.1]
    by_cases hn : I 28 p < 0
    · rw [ifc_t (P := I 28 p < 0 ∨ _) (Or.inl hn), ifc_t hn, ifc_f (by omega)]
    · rw [ifc_f hn, chP hpp hs hp (va_up (I 24) c 9) hle]
      obtain ⟨q1, q2⟩ := frst_cut (P := fun k => (hT I nl na pp (va_up (I 24) c 9) (I 26) (I 27) k).1.1 p = I 28 p) hle
      by_cases hz : frst (fun k => (hT I nl na pp (va_up (I 24) c 9) (I 26) (I 27) k).1.1 p = I 28 p) 41 < (keyF M pp p c).2
      · rw [ifc_t hz, q1 hz, ifc_f (fun w => by rcases w with w | w; exact hn w; omega)]
      · rw [ifc_f hz, q2 hz, ifc_t (Or.inr rfl)]
theorem drw_eq (ch : Nat → Int32) (p : Nat) (st : Int32) : ∀ n, drw ch p st n = ch p ||| chF ch st n
  | 0 => by rw [drw, chF, Int32.or_zero]
  | n + 1 => by
    rw [drw, chF, drw_eq ch p st n]
    by_cases h : hb st n
    · rw [ifc_t h, ifc_t h, Int32.or_assoc]
    · rw [ifc_f h, ifc_f h, Int32.or_zero]
theorem pop_7 : ∀ s, s < 64 → pop16 s < 7 := by decide +kernel
theorem lent_eq {ch : Nat → Int32} {rf : Int32} {p sz gz : Nat} : ∀ s, s ≤ 64 → (lnC ch rf pp p sz gz s).2 = lentF ch rf pp p sz gz s ∧ ((lentF ch rf pp p sz gz s < 0 ∧ (lnC ch rf pp p sz gz s).1 = 7) ∨ (¬ lentF ch rf pp p sz gz s < 0 ∧ (lnC ch rf pp p sz gz s).1 = bitc (lentF ch rf pp p sz gz s) 16))
  | 0, _ => ⟨rfl, Or.inl ⟨by rw [lentF]; decide, rfl⟩⟩
  | s + 1, hs => by
    obtain ⟨r1, r2⟩ := lent_eq (ch := ch) (rf := rf) (p := p) (sz := sz) (gz := gz) s (by omega)
    have h7 : bitc (nI s) 16 < 7 := by rw [bitc_pop]; exact pop_7 s (by omega)
    have hnn : ¬ nI s < 0 := fun q => by
      have q := Int32.lt_iff_toInt_lt.mp q
      rw [nI_toInt (by omega), show ((0 : Int32)).toInt = 0 from rfl] at q; omega
    rw [lentF, drw_eq]
    by_cases h1 : hb (nI s) p
    · rw [ifc_t h1, lnC_f (fun q => q.1 h1)]; exact ⟨r1, r2⟩
    rw [ifc_f h1]
    by_cases h2 : ¬ lentF ch rf pp p sz gz s < 0 ∧ bitc (lentF ch rf pp p sz gz s) 16 ≤ bitc (nI s) 16
    · have hx : (lnC ch rf pp p sz gz s).1 = bitc (lentF ch rf pp p sz gz s) 16 := by
        rcases r2 with ⟨a, _⟩ | ⟨_, b⟩
        · exact absurd a h2.1
        · exact b
      rw [ifc_t h2, lnC_f (fun q => by have := q.2.1; have := h2.2; omega)]; exact ⟨r1, r2⟩
    rw [ifc_f h2]
    by_cases h3 : lead (ch p ||| chF ch (nI s) pp) rf sz gz
    · have hx : bitc (nI s) 16 < (lnC ch rf pp p sz gz s).1 := by
        rcases r2 with ⟨_, b⟩ | ⟨a, b⟩
        · omega
        · rw [b]; exact Nat.lt_of_not_le (fun q => h2 ⟨a, q⟩)
      rw [ifc_t h3, lnC_t ⟨h1, hx, h3⟩]
      exact ⟨rfl, Or.inr ⟨hnn, rfl⟩⟩
    · rw [ifc_f h3, lnC_f (fun q => h3 q.2.2)]; exact ⟨r1, r2⟩
theorem lentV_eq (h : EQ M I nl na) (hpp : pp ≤ 6) {p : Nat} : lentV M pp p = ifc (I 28 p < 0) (-5) (lnC (I 29) (refv (fun q => (Wl (I 24) (I 25) (I 26) (I 31) pp (nsW I nl na) (I 23 9) (I 27) (I 29) p q)) 16) pp p (tn (I 27 p)) (tn (I 28 p)) (2 ^ pp)).2 := by
  unfold lentV
  rw [wel_eq h]
  obtain ⟨h0, h1, h3, h4, h5, h6, h7, h8, h9, h10, h11⟩ := h
  rw [h4, h5, h6]
  by_cases hn : I 28 p < 0
  · rw [ifc_t hn, ifc_t (gF_lt.mpr hn)]
  · rw [ifc_f hn, ifc_f (fun q => hn (gF_lt.mp q)), gF_p hn]
    exact (lent_eq (2 ^ pp) (pow_pp pp hpp)).1.symm
end
