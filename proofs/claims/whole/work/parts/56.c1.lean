def bt (x : Int32) (i : Nat) : Bool := x.toBitVec.getLsbD i
theorem b_ext {x y : Int32} (h : ∀ i, i < 32 → bt x i = bt y i) : x = y := Int32.toBitVec_inj.mp (BitVec.eq_of_getLsbD_eq (fun i hi => h i hi))
theorem b_or (x y : Int32) (i : Nat) : bt (x ||| y) i = (bt x i || bt y i) := by unfold bt; rw [Int32.toBitVec_or, BitVec.getLsbD_or]
theorem b_and (x y : Int32) (i : Nat) : bt (x &&& y) i = (bt x i && bt y i) := by unfold bt; rw [Int32.toBitVec_and, BitVec.getLsbD_and]
theorem b_xor (x y : Int32) (i : Nat) : bt (x ^^^ y) i = (bt x i ^^ bt y i) := by unfold bt; rw [Int32.toBitVec_xor, BitVec.getLsbD_xor]
theorem b_big {x : Int32} {i : Nat} (h : 32 ≤ i) : bt x i = false := BitVec.getLsbD_of_ge _ _ h
theorem b_255 (i : Nat) : bt 255 i = decide (i < 8) := by
  rcases Nat.lt_or_ge i 32 with h | h
  · exact (by decide +kernel : ∀ i, i < 32 → bt 255 i = decide (i < 8)) i h
  · rw [b_big h, decide_eq_false (by omega)]
theorem b_65535 (i : Nat) : bt 65535 i = decide (i < 16) := by
  rcases Nat.lt_or_ge i 32 with h | h
  · exact (by decide +kernel : ∀ i, i < 32 → bt 65535 i = decide (i < 16)) i h
  · rw [b_big h, decide_eq_false (by omega)]
theorem b_m1 : ∀ i, i < 32 → bt (-1) i = true := by decide +kernel
theorem b_0 (i : Nat) : bt 0 i = false := BitVec.getLsbD_zero
theorem s_l : ∀ n, n < 32 → ((nI n &&& 31).toBitVec.smod 32).toNat = n := by decide +kernel
theorem s_u : ∀ n, n < 32 → (((nI n).toUInt32 &&& Int32.toUInt32 31).toBitVec % 32).toNat = n := by decide +kernel
theorem b_shl (n : Nat) (hn : n < 32) (x : Int32) {i : Nat} (hi : i < 32) : bt (x <<< (nI n &&& 31)) i = (decide (n ≤ i) && bt x (i - n)) := by
  unfold bt
  rw [Int32.toBitVec_shiftLeft]
  show (x.toBitVec <<< ((nI n &&& 31).toBitVec.smod 32).toNat).getLsbD i = _
  rw [s_l n hn, BitVec.getLsbD_shiftLeft]
  rcases Nat.lt_or_ge i n with h | h
  · simp [h, Nat.not_le.mpr h]
  · simp [hi, h, Nat.not_lt.mpr h]
theorem b_ushr (n : Nat) (hn : n < 32) (x : Int32) (i : Nat) : bt ((x.toUInt32 >>> ((nI n).toUInt32 &&& Int32.toUInt32 31)).toInt32) i = bt x (n + i) := by
  show (x.toUInt32 >>> ((nI n).toUInt32 &&& Int32.toUInt32 31)).toBitVec.getLsbD i = x.toUInt32.toBitVec.getLsbD (n + i)
  rw [UInt32.toBitVec_shiftRight]
  show (x.toUInt32.toBitVec >>> (((nI n).toUInt32 &&& Int32.toUInt32 31).toBitVec % 32).toNat).getLsbD i = _
  rw [s_u n hn, BitVec.getLsbD_ushiftRight]
theorem b_sshr (n : Nat) (hn : n < 32) (x : Int32) {i : Nat} (hi : i < 32) : bt (x >>> (nI n &&& 31)) i = if n + i < 32 then bt x (n + i) else bt x 31 := by
  unfold bt
  rw [Int32.toBitVec_shiftRight]
  show (x.toBitVec.sshiftRight ((nI n &&& 31).toBitVec.smod 32).toNat).getLsbD i = _
  rw [s_l n hn, BitVec.getLsbD_sshiftRight, BitVec.msb_eq_getLsbD_last]
  simp [hi]
theorem nx_and (a b : Nat) : nI a &&& nI b = nI (a &&& b) := by
  apply Int32.toBitVec_inj.1
  show BitVec.ofNat 32 a &&& BitVec.ofNat 32 b = BitVec.ofNat 32 (a &&& b)
  apply BitVec.eq_of_getLsbD_eq
  intro i hi
  simp [hi]
theorem nx_xor (a b : Nat) : nI a ^^^ nI b = nI (a ^^^ b) := by
  apply Int32.toBitVec_inj.1
  show BitVec.ofNat 32 a ^^^ BitVec.ofNat 32 b = BitVec.ofNat 32 (a ^^^ b)
  apply BitVec.eq_of_getLsbD_eq
  intro i hi
  simp [hi]
/-! sets of cells as bits -/
theorem b_one : ∀ i, i < 32 → bt 1 i = decide (i = 0) := by decide +kernel
theorem hb_bt {x : Int32} {k : Nat} (hk : k < 32) : hb x k ↔ bt x k = true := by
  have e0 : bt (x >>> (nI k &&& 31) &&& 1) 0 = bt x k := by
    rw [b_and, b_sshr k hk x (by omega), if_pos (by omega), b_one 0 (by omega)]; simp
  unfold hb
  constructor
  · intro h
    rw [← e0, h]; exact b_one 0 (by omega)
  · intro h
    refine b_ext (fun i hi => ?_)
    by_cases h0 : i = 0
    · subst h0; rw [e0, h]; exact (b_one 0 (by omega)).symm
    · rw [b_and, b_one i hi, decide_eq_false h0, Bool.and_false]
theorem hb_or {x y : Int32} {k : Nat} (hk : k < 32) : hb (x ||| y) k ↔ hb x k ∨ hb y k := by
  rw [hb_bt hk, hb_bt hk, hb_bt hk, b_or, Bool.or_eq_true]
theorem hb_and {x y : Int32} {k : Nat} (hk : k < 32) : hb (x &&& y) k ↔ hb x k ∧ hb y k := by
  rw [hb_bt hk, hb_bt hk, hb_bt hk, b_and, Bool.and_eq_true]
theorem hb_not {x : Int32} {k : Nat} (hk : k < 32) : hb (x ^^^ (-1)) k ↔ ¬ hb x k := by
  rw [hb_bt hk, hb_bt hk, b_xor, b_m1 k hk]; cases bt x k <;> simp
theorem hb_0 {k : Nat} (hk : k < 32) : ¬ hb 0 k := by rw [hb_bt hk, b_0]; exact Bool.false_ne_true
theorem hb_one {c k : Nat} (hc : c < 32) (hk : k < 32) : hb ((1 : Int32) <<< (nI c &&& 31)) k ↔ k = c := by
  rw [hb_bt hk, b_shl c hc _ hk, b_one _ (by omega), Bool.and_eq_true, decide_eq_true_eq, decide_eq_true_eq]; omega
/-- no bits from 16 on -/
def s16 (x : Int32) : Prop := ∀ j, 16 ≤ j → bt x j = false
theorem s16_and {x y : Int32} (h : s16 x) : s16 (x &&& y) := fun j hj => by rw [b_and, h j hj]; rfl
theorem s16_or {x y : Int32} (h : s16 x) (h2 : s16 y) : s16 (x ||| y) := fun j hj => by rw [b_or, h j hj, h2 j hj]; rfl
theorem s16_m (x : Int32) : s16 (x &&& 65535) := fun j hj => by rw [b_and, b_65535, decide_eq_false (by omega), Bool.and_false]
theorem s16_one {c : Nat} (hc : c < 16) : s16 ((1 : Int32) <<< (nI c &&& 31)) := fun j hj => by
  rcases Nat.lt_or_ge j 32 with h | h
  · rw [b_shl c (by omega) _ h, b_one _ (by omega), decide_eq_false (show ¬ j - c = 0 by omega), Bool.and_false]
  · exact b_big h
theorem s16_0 : s16 0 := fun j _ => b_0 j
theorem s16_ext {x y : Int32} (hx : s16 x) (hy : s16 y) (h : ∀ c, c < 16 → (hb x c ↔ hb y c)) : x = y := by
  refine b_ext (fun i hi => ?_)
  by_cases q : i < 16
  · have h1 := h i q
    rw [hb_bt hi, hb_bt hi] at h1
    cases e1 : bt x i <;> cases e2 : bt y i <;> rw [e1, e2] at h1 <;> first | rfl | (exact absurd (h1.mpr rfl) Bool.false_ne_true) | (exact absurd (h1.mp rfl) Bool.false_ne_true)
  · rw [hx i (by omega), hy i (by omega)]
theorem s16_inr {x : Int32} : s16 x ↔ inr x 65536 := by
  have e : s16 x ↔ x &&& 65535 = x := by
    constructor
    · intro h
      refine b_ext (fun i hi => ?_)
      rw [b_and, b_65535]
      by_cases q : i < 16
      · rw [decide_eq_true q, Bool.and_true]
      · rw [h i (by omega)]; rfl
    · intro h; rw [← h]; exact s16_m x
  rw [e]
  constructor
  · intro h
    have h2 := pk_and x (m := 65535) 16 rfl
    rw [h] at h2
    rw [h2, inr_of_nI (by omega)]; omega
  · intro h
    rw [inr_nI h]
    have h3 := inr_lt h
    have h2 := pk_andN (n := tn x) (by omega) (m := 65535) 16 rfl
    rw [h2, Nat.mod_eq_of_lt (by omega)]
def ush (x n : Int32) : Int32 := (x.toUInt32 >>> (Int32.toUInt32 n &&& Int32.toUInt32 31)).toInt32
theorem b_ush (n : Nat) (hn : n < 32) (x : Int32) (i : Nat) : bt (ush x (nI n)) i = bt x (n + i) := b_ushr n hn x i
/-- the cells next to those of a set -/
def nearI (x : Int32) : Int32 := ((x <<< (4 &&& 31)) ||| ush x 4 ||| (((x &&& 30583) <<< (1 &&& 31)) ||| (ush x 1 &&& 30583))) &&& 65535
theorem b_m7 : ∀ j, j < 32 → bt 30583 j = (decide (j < 16) && !(decide (j % 4 = 3))) := by decide +kernel
theorem nearI_16 (x : Int32) : s16 (nearI x) := s16_m _
theorem nearI_hb {x : Int32} {c : Nat} (h : s16 x) (hc : c < 16) : hb (nearI x) c ↔ ∃ k, k < 4 ∧ nb c k < 16 ∧ hb x (nb c k) := by
  have e : bt (nearI x) c = ((decide (4 ≤ c) && bt x (c - 4)) || bt x (4 + c) || ((decide (1 ≤ c) && (bt x (c - 1) && bt 30583 (c - 1))) || (bt x (1 + c) && bt 30583 c))) := by
    unfold nearI
    rw [b_and, b_65535, decide_eq_true hc, Bool.and_true, b_or, b_or, b_or, b_and]
    rw [show ((4 : Int32) &&& 31) = (nI 4 &&& 31) from rfl, show ((1 : Int32) &&& 31) = (nI 1 &&& 31) from rfl, show ush x 4 = ush x (nI 4) from rfl, show ush x 1 = ush x (nI 1) from rfl]
    rw [b_shl 4 (by omega) x (by omega), b_ush 4 (by omega), b_shl 1 (by omega) _ (by omega), b_and, b_ush 1 (by omega)]
  rw [hb_bt (by omega), e, Bool.or_eq_true, Bool.or_eq_true, Bool.or_eq_true, Bool.and_eq_true, Bool.and_eq_true, Bool.and_eq_true, Bool.and_eq_true, decide_eq_true_eq, decide_eq_true_eq, b_m7 c (by omega)]
  have up : ∀ j, bt x j = true → j < 16 := fun j hj => Classical.byContradiction fun q => by rw [h j (by omega)] at hj; cases hj
  constructor
  · rintro ((⟨h1, h2⟩ | h2) | (⟨h1, h2, h3⟩ | ⟨h2, h3⟩))
    · have e : nb c 0 = c - 4 := by unfold nb; rw [if_pos rfl, if_pos h1]
      exact ⟨0, by omega, by omega, by rw [e, hb_bt (by omega)]; exact h2⟩
    · have h3 := up _ h2
      have e : nb c 3 = 4 + c := by unfold nb; rw [if_neg (by omega), if_neg (by omega), if_neg (by omega), if_neg (by omega)]; omega
      exact ⟨3, by omega, by omega, by rw [e, hb_bt (by omega)]; exact h2⟩
    · rw [b_m7 (c - 1) (by omega), Bool.and_eq_true, decide_eq_true_eq] at h3
      have h4 : ¬ (c - 1) % 4 = 3 := by intro q; rw [decide_eq_true q] at h3; cases h3.2
      have e : nb c 1 = c - 1 := by unfold nb; rw [if_neg (by omega), if_pos rfl, if_neg (by omega)]
      exact ⟨1, by omega, by omega, by rw [e, hb_bt (by omega)]; exact h2⟩
    · rw [Bool.and_eq_true] at h3
      have h4 : ¬ c % 4 = 3 := by intro q; rw [decide_eq_true q] at h3; cases h3.2
      have h5 := up _ h2
      have e : nb c 2 = 1 + c := by unfold nb; rw [if_neg (by omega), if_neg (by omega), if_pos rfl, if_neg h4]; omega
      exact ⟨2, by omega, by omega, by rw [e, hb_bt (by omega)]; exact h2⟩
  · rintro ⟨k, hk, hn, hx⟩
    rw [hb_bt (by omega)] at hx
    rcases (show k = 0 ∨ k = 1 ∨ k = 2 ∨ k = 3 by omega) with rfl | rfl | rfl | rfl
    · by_cases h1 : 4 ≤ c
      · rw [show nb c 0 = c - 4 by unfold nb; rw [if_pos rfl, if_pos h1]] at hx
        exact Or.inl (Or.inl ⟨h1, hx⟩)
      · rw [show nb c 0 = 16 by unfold nb; rw [if_pos rfl, if_neg h1]] at hn; omega
    · by_cases h1 : c % 4 = 0
      · rw [show nb c 1 = 16 by unfold nb; rw [if_neg (by omega), if_pos rfl, if_pos h1]] at hn; omega
      · rw [show nb c 1 = c - 1 by unfold nb; rw [if_neg (by omega), if_pos rfl, if_neg h1]] at hx
        refine Or.inr (Or.inl ⟨by omega, hx, ?_⟩)
        rw [b_m7 (c - 1) (by omega), decide_eq_true (show c - 1 < 16 by omega), decide_eq_false (show ¬ (c - 1) % 4 = 3 by omega)]; rfl
    · by_cases h1 : c % 4 = 3
      · rw [show nb c 2 = 16 by unfold nb; rw [if_neg (by omega), if_neg (by omega), if_pos rfl, if_pos h1]] at hn; omega
      · rw [show nb c 2 = c + 1 by unfold nb; rw [if_neg (by omega), if_neg (by omega), if_pos rfl, if_neg h1]] at hx
        refine Or.inr (Or.inr ⟨by rw [Nat.add_comm]; exact hx, ?_⟩)
        rw [decide_eq_true hc, decide_eq_false h1]; rfl
    · by_cases h1 : 11 < c
      · rw [show nb c 3 = 16 by unfold nb; rw [if_neg (by omega), if_neg (by omega), if_neg (by omega), if_pos h1]] at hn; omega
      · rw [show nb c 3 = c + 4 by unfold nb; rw [if_neg (by omega), if_neg (by omega), if_neg (by omega), if_neg h1]] at hx
        exact Or.inl (Or.inr (by rw [Nat.add_comm]; exact hx))
/-- a flood -/
def flo (set x0 : Int32) : Nat → Int32
  | 0 => x0
  | i + 1 => flo set x0 i ||| (nearI (flo set x0 i) &&& (set ^^^ (-1)))
theorem flo_16 {set x0 : Int32} (h : s16 x0) : ∀ i, s16 (flo set x0 i)
  | 0 => h
  | i + 1 => s16_or (flo_16 h i) (s16_and (nearI_16 _))
theorem flo_hb {set x0 : Int32} (h : s16 x0) {i c : Nat} (hc : c < 16) : hb (flo set x0 (i + 1)) c ↔ hb (flo set x0 i) c ∨ (¬ hb set c ∧ ∃ k, k < 4 ∧ nb c k < 16 ∧ hb (flo set x0 i) (nb c k)) := by
  rw [flo, hb_or (by omega), hb_and (by omega), nearI_hb (flo_16 h i) hc, hb_not (by omega)]
  constructor
  · rintro (h | ⟨h1, h2⟩)
    · exact Or.inl h
    · exact Or.inr ⟨h2, h1⟩
  · rintro (h | ⟨h1, h2⟩)
    · exact Or.inl h
    · exact Or.inr ⟨h2, h1⟩
def flB (set : Int32) (gl : Nat) : Int32 := ((1 : Int32) <<< (nI gl &&& 31)) &&& (set ^^^ (-1))
theorem flB_16 {set : Int32} {gl : Nat} (hg : gl < 16) : s16 (flB set gl) := s16_and (s16_one hg)
/-- the flood from the end is what is reached -/
theorem flB_rch {set : Int32} {gl : Nat} (hg : gl < 16) : ∀ i c, c < 16 → (hb (flo set (flB set gl) i) c ↔ rch set gl i c)
  | 0, c, hc => by
    rw [flo, rch, flB, hb_and (by omega), hb_one (by omega) (by omega), hb_not (by omega)]
    constructor
    · rintro ⟨rfl, h⟩; exact ⟨rfl, h⟩
    · rintro ⟨rfl, h⟩; exact ⟨rfl, h⟩
  | i + 1, c, hc => by
    have ih := flB_rch (set := set) hg i
    rw [flo_hb (flB_16 hg) hc, rch, ih c hc]
    constructor
    · rintro (h | ⟨h1, k, hk, hn, h2⟩)
      · exact Or.inl h
      · exact Or.inr ⟨h1, k, hk, hn, (ih _ hn).mp h2⟩
    · rintro (h | ⟨h1, k, hk, hn, h2⟩)
      · exact Or.inl h
      · exact Or.inr ⟨h1, k, hk, hn, (ih _ hn).mpr h2⟩
