/-! distances and floods -/
theorem nb_sym : ∀ x, x < 16 → ∀ y, y < 16 → (∃ k, k < 4 ∧ nb x k = y) → ∃ k, k < 4 ∧ nb y k = x := by
  intro x hx y hy h
  have key : ∀ x, x < 16 → ∀ k, k < 4 → nb x k < 16 → (nb (nb x k) 0 = x ∨ nb (nb x k) 1 = x ∨ nb (nb x k) 2 = x ∨ nb (nb x k) 3 = x) := by decide +kernel
  obtain ⟨k, hk, rfl⟩ := h
  rcases key x hx k hk hy with e | e | e | e
  · exact ⟨0, by omega, e⟩
  · exact ⟨1, by omega, e⟩
  · exact ⟨2, by omega, e⟩
  · exact ⟨3, by omega, e⟩
theorem nb_mono : ∀ b, b < 16 → ∀ k, k < 4 → ∀ j, j < k → nb b j < 16 → nb b k < 16 → nb b j < nb b k := by decide +kernel
def cnb (D : Nat → Nat) (e : Nat) : Nat → Nat
  | 0 => 0
  | x + 1 => cnb D e x + (if D x < e then 1 else 0)
theorem cnb_le (D : Nat → Nat) (e : Nat) : ∀ n, cnb D e n ≤ n
  | 0 => Nat.le_refl _
  | n + 1 => by
    have h := cnb_le D e n
    show cnb D e n + (if D n < e then 1 else 0) ≤ n + 1
    split <;> omega
theorem cnb_mono (D : Nat → Nat) (e : Nat) : ∀ n, cnb D e n ≤ cnb D (e + 1) n
  | 0 => Nat.le_refl _
  | n + 1 => by
    have h := cnb_mono D e n
    show cnb D e n + (if D n < e then 1 else 0) ≤ cnb D (e + 1) n + (if D n < e + 1 then 1 else 0)
    by_cases q : D n < e
    · rw [if_pos q, if_pos (by omega)]; omega
    · rw [if_neg q]; omega
theorem cnb_step (D : Nat → Nat) (e : Nat) : ∀ n x, x < n → D x = e → cnb D e n + 1 ≤ cnb D (e + 1) n
  | 0, _, h, _ => absurd h (Nat.not_lt_zero _)
  | n + 1, x, hx, he => by
    show cnb D e n + (if D n < e then 1 else 0) + 1 ≤ cnb D (e + 1) n + (if D n < e + 1 then 1 else 0)
    by_cases q : x = n
    · subst q
      have h := cnb_mono D e x
      rw [if_neg (by omega), if_pos (by omega)]; omega
    · have h := cnb_step D e n x (by omega) he
      by_cases q2 : D n < e
      · rw [if_pos q2, if_pos (by omega)]; omega
      · rw [if_neg q2]; omega
section
variable {st : Int32} {gl : Nat}
theorem dst_le {c d : Nat} (hc : c < 16) (h : rch st gl d c) : dst st gl c ≤ d := (dst_is st gl c hc).2.1 d h
theorem dst_rch {c : Nat} (hc : c < 16) (h : dst st gl c < 99) : rch st gl (dst st gl c) c := (dst_is st gl c hc).2.2 h
theorem dst_lev : ∀ d, d < 99 → ∀ c, c < 16 → dst st gl c = d → ∀ e, e ≤ d → ∃ x, x < 16 ∧ dst st gl x = e
  | 0, _, c, hc, h, e, he => ⟨c, hc, by omega⟩
  | d + 1, hd, c, hc, h, e, he => by
    by_cases q : e = d + 1
    · exact ⟨c, hc, by omega⟩
    · have h1 := dst_rch (st := st) (gl := gl) hc (by omega)
      rw [h] at h1
      rcases h1 with h1 | ⟨hs, k, hk, hn, h2⟩
      · have h3 := dst_le hc h1; omega
      · have h3 := dst_le hn h2
        have h4 : dst st gl (nb c k) = d := by
          by_cases q2 : dst st gl (nb c k) = d
          · exact q2
          · have h5 : rch st gl (dst st gl (nb c k) + 1) c := Or.inr ⟨hs, k, hk, hn, dst_rch hn (by omega)⟩
            have h6 := dst_le hc h5
            omega
        exact dst_lev d (by omega) (nb c k) hn h4 e (by omega)
theorem dst_15 {c : Nat} (hc : c < 16) (h : dst st gl c < 99) : dst st gl c ≤ 15 := by
  refine Classical.byContradiction fun q => ?_
  have hl := dst_lev _ h c hc rfl
  have key : ∀ e, e ≤ 17 → e ≤ cnb (dst st gl) e 16 := by
    intro e
    induction e with
    | zero => intro _; exact Nat.zero_le _
    | succ e ih =>
      intro he
      obtain ⟨x, hx, h2⟩ := hl e (by omega)
      have h3 := cnb_step (dst st gl) e 16 x hx h2
      have h4 := ih (by omega)
      omega
  have h1 := key 17 (Nat.le_refl _)
  have h2 := cnb_le (dst st gl) 17 16
  omega
theorem near_ex {b : Nat} (h : near (dst st gl) b < 99) : ∃ k, k < 4 ∧ nb b k < 16 ∧ near (dst st gl) b = dst st gl (nb b k) + 1 := nearK_ex (dst st gl) b 4 h
theorem near_le {b k : Nat} (hk : k < 4) (hn : nb b k < 16) : near (dst st gl) b ≤ dst st gl (nb b k) + 1 := nearK_le (dst st gl) b 4 k hk hn
end
noncomputable def fcV (st : Int32) (b gl : Nat) : Int32 := ifc (near (dst st gl) b < 99) (nI (fstC st b gl)) (-1)
/-- who is beside the beginning, reached behind i rounds -/
def fcY (st : Int32) (b gl i : Nat) : Int32 := flo st (flB st gl) i &&& nearI ((1 : Int32) <<< (nI b &&& 31))
section
variable {st : Int32} {b gl : Nat}
theorem fcY_16 {i : Nat} : s16 (fcY st b gl i) := fun j hj => by unfold fcY; rw [b_and, nearI_16 _ j hj, Bool.and_false]
theorem fcY_hb (hb0 : b < 16) (hg : gl < 16) {i c : Nat} (hc : c < 16) : hb (fcY st b gl i) c ↔ rch st gl i c ∧ ∃ k, k < 4 ∧ nb b k = c := by
  unfold fcY
  rw [hb_and (by omega), flB_rch hg i c hc, nearI_hb (s16_one hb0) hc]
  constructor
  · rintro ⟨h1, k, hk, hn, h2⟩
    rw [hb_one (by omega) (by omega)] at h2
    exact ⟨h1, nb_sym c hc b hb0 ⟨k, hk, h2⟩⟩
  · rintro ⟨h1, k, hk, h2⟩
    obtain ⟨j, hj, h3⟩ := nb_sym b hb0 c hc ⟨k, hk, h2⟩
    exact ⟨h1, j, hj, by omega, by rw [hb_one (by omega) (by omega)]; exact h3⟩
theorem fcY_ne (hb0 : b < 16) (hg : gl < 16) {i k : Nat} (hk : k < 4) (hn : nb b k < 16) (h : rch st gl i (nb b k)) : ¬ fcY st b gl i = 0 := fun q => by
  have h1 := (fcY_hb (st := st) hb0 hg (i := i) hn).mpr ⟨h, k, hk, rfl⟩
  rw [q] at h1; exact hb_0 (by omega) h1
theorem fc_none (hb0 : b < 16) (hg : gl < 16) (h : ∀ j, j < 16 → fcY st b gl j = 0) : fcV st b gl = -1 := by
  unfold fcV
  refine ifc_f fun q => ?_
  obtain ⟨k, hk, hn, he⟩ := near_ex q
  have h1 : dst st gl (nb b k) < 99 := by omega
  have h2 := dst_15 hn h1
  exact fcY_ne hb0 hg hk hn (dst_rch hn h1) (h _ (by omega))
theorem flo_fix {x0 : Int32} {i : Nat} (h : flo st x0 (i + 1) = flo st x0 i) : ∀ j, i ≤ j → flo st x0 j = flo st x0 i := by
  intro j hj
  obtain ⟨d, rfl⟩ : ∃ d, j = i + d := ⟨j - i, by omega⟩
  clear hj
  induction d with
  | zero => rfl
  | succ d ih => rw [← Nat.add_assoc, flo, ih]; exact h
theorem fc_stop (hb0 : b < 16) (hg : gl < 16) {i : Nat} (h : ∀ j, j < i → fcY st b gl j = 0) (h1 : fcY st b gl i = 0) (h2 : flo st (flB st gl) (i + 1) = flo st (flB st gl) i) : fcV st b gl = -1 := by
  refine fc_none hb0 hg (fun j _ => ?_)
  rcases Nat.lt_or_ge j i with q | q
  · exact h j q
  · unfold fcY; rw [flo_fix h2 j q]; exact h1
theorem fc_hit (hb0 : b < 16) (hg : gl < 16) {i r : Nat} (hi : i < 16) (h : ∀ j, j < i → fcY st b gl j = 0) (hr : r < 16) (h1 : hb (fcY st b gl i) r) (h2 : ∀ j, j < r → ¬ hb (fcY st b gl i) j) : fcV st b gl = nI r := by
  obtain ⟨hrr, k, hk, hkr⟩ := (fcY_hb hb0 hg hr).mp h1
  have low : ∀ j, j < 4 → nb b j < 16 → i ≤ dst st gl (nb b j) := fun j hj hn => Classical.byContradiction fun q =>
    fcY_ne hb0 hg hj hn (dst_rch hn (by omega)) (h _ (by omega))
  have hd : dst st gl r ≤ i := dst_le hr hrr
  have hl := low k hk (by omega)
  rw [hkr] at hl
  have hn1 := near_le (st := st) (gl := gl) hk (show nb b k < 16 by omega)
  rw [hkr] at hn1
  have hlt : near (dst st gl) b < 99 := by omega
  obtain ⟨k2, hk2, hn2, he2⟩ := near_ex hlt
  have h3 := low k2 hk2 hn2
  have hnear : near (dst st gl) b = i + 1 := by omega
  have hs : nI r = stp (dst st gl) b := stp_at hk ⟨by omega, by rw [hkr]; omega⟩ (fun j hj ⟨q1, q2⟩ => by
    have q3 : dst st gl (nb b j) = i := by omega
    have q4 : rch st gl i (nb b j) := by have q5 := dst_rch (st := st) (gl := gl) q1 (by omega); rw [q3] at q5; exact q5
    have q6 := nb_mono b hb0 k hk j hj q1 (by omega)
    rw [hkr] at q6
    exact h2 _ q6 ((fcY_hb hb0 hg q1).mpr ⟨q4, j, by omega, rfl⟩)) (by rw [hkr])
  unfold fcV
  rw [ifc_t hlt]
  unfold fstC
  rw [← hs, tn_nI (by omega)]
end
/-! the flood from the beginning -/
def fwd (st : Int32) (b : Nat) : Nat → Nat → Prop
  | 0, c => c = b
  | i + 1, c => fwd st b i c ∨ (¬ hb st c ∧ ∃ k, k < 4 ∧ nb c k < 16 ∧ fwd st b i (nb c k))
section
variable {st : Int32}
theorem fwd_hb {b : Nat} (hb0 : b < 16) : ∀ i c, c < 16 → (hb (flo st ((1 : Int32) <<< (nI b &&& 31)) i) c ↔ fwd st b i c)
  | 0, c, hc => by rw [flo, fwd, hb_one (by omega) (by omega)]
  | i + 1, c, hc => by
    have ih := fwd_hb hb0 i
    rw [flo_hb (s16_one hb0) hc, fwd, ih c hc]
    constructor
    · rintro (h | ⟨h1, k, hk, hn, h2⟩)
      · exact Or.inl h
      · exact Or.inr ⟨h1, k, hk, hn, (ih _ hn).mp h2⟩
    · rintro (h | ⟨h1, k, hk, hn, h2⟩)
      · exact Or.inl h
      · exact Or.inr ⟨h1, k, hk, hn, (ih _ hn).mpr h2⟩
theorem fwd_first : ∀ d b c, b < 16 → c < 16 → (fwd st b (d + 1) c ↔ fwd st b d c ∨ ∃ k, k < 4 ∧ nb b k < 16 ∧ ¬ hb st (nb b k) ∧ fwd st (nb b k) d c)
  | 0, b, c, hb0, hc => by
    constructor
    · rintro (h | ⟨h1, k, hk, hn, h2⟩)
      · exact Or.inl h
      · have h2 : nb c k = b := h2
        obtain ⟨j, hj, h3⟩ := nb_sym c hc b hb0 ⟨k, hk, h2⟩
        exact Or.inr ⟨j, hj, by omega, by rw [h3]; exact h1, h3.symm⟩
    · rintro (h | ⟨k, hk, hn, h1, h2⟩)
      · exact Or.inl h
      · have h2 : c = nb b k := h2
        obtain ⟨j, hj, h3⟩ := nb_sym b hb0 c hc ⟨k, hk, h2.symm⟩
        exact Or.inr ⟨by rw [h2]; exact h1, j, hj, by omega, h3⟩
  | d + 1, b, c, hb0, hc => by
    constructor
    · rintro (h | ⟨h1, k, hk, hn, h2⟩)
      · exact Or.inl h
      · rcases (fwd_first d b (nb c k) hb0 hn).mp h2 with h3 | ⟨j, hj, hn2, h4, h5⟩
        · exact Or.inl (Or.inr ⟨h1, k, hk, hn, h3⟩)
        · exact Or.inr ⟨j, hj, hn2, h4, Or.inr ⟨h1, k, hk, hn, h5⟩⟩
    · rintro (h | ⟨j, hj, hn2, h4, h5 | ⟨h1, k, hk, hn, h5⟩⟩)
      · exact Or.inl h
      · exact Or.inl ((fwd_first d b c hb0 hc).mpr (Or.inr ⟨j, hj, hn2, h4, h5⟩))
      · exact Or.inr ⟨h1, k, hk, hn, (fwd_first d b (nb c k) hb0 hn).mpr (Or.inr ⟨j, hj, hn2, h4, h5⟩)⟩
theorem rch_fwd {gl : Nat} (hg : gl < 16) : ∀ d c, c < 16 → (rch st gl d c ↔ ¬ hb st c ∧ fwd st c d gl)
  | 0, c, hc => by
    constructor
    · rintro ⟨rfl, h⟩; exact ⟨h, rfl⟩
    · rintro ⟨h, h2⟩
      have h2 : gl = c := h2
      subst h2; exact ⟨rfl, h⟩
  | d + 1, c, hc => by
    have ih := rch_fwd hg d
    rw [fwd_first d c gl hc hg]
    constructor
    · rintro (h | ⟨h1, k, hk, hn, h2⟩)
      · have h3 := (ih c hc).mp h; exact ⟨h3.1, Or.inl h3.2⟩
      · have h3 := (ih _ hn).mp h2; exact ⟨h1, Or.inr ⟨k, hk, hn, h3.1, h3.2⟩⟩
    · rintro ⟨h1, h2 | ⟨k, hk, hn, h3, h4⟩⟩
      · exact Or.inl ((ih c hc).mpr ⟨h1, h2⟩)
      · exact Or.inr ⟨h1, k, hk, hn, (ih _ hn).mpr ⟨h3, h4⟩⟩
theorem fwd_ex {b gl : Nat} (hb0 : b < 16) (hg : gl < 16) : ∀ i, fwd st b i gl ↔ b = gl ∨ ∃ j, j < i ∧ ∃ k, k < 4 ∧ nb b k < 16 ∧ rch st gl j (nb b k)
  | 0 => by
    constructor
    · intro h; exact Or.inl (show gl = b from h).symm
    · rintro (h | ⟨j, hj, _⟩)
      · exact h.symm
      · omega
  | i + 1 => by
    have ih := fwd_ex hb0 hg i
    rw [fwd_first i b gl hb0 hg, ih]
    constructor
    · rintro ((h | ⟨j, hj, h⟩) | ⟨k, hk, hn, h1, h2⟩)
      · exact Or.inl h
      · exact Or.inr ⟨j, by omega, h⟩
      · exact Or.inr ⟨i, by omega, k, hk, hn, (rch_fwd hg i _ hn).mpr ⟨h1, h2⟩⟩
    · rintro (h | ⟨j, hj, k, hk, hn, h⟩)
      · exact Or.inl (Or.inl h)
      · by_cases q : j = i
        · subst q
          have h3 := (rch_fwd hg j _ hn).mp h
          exact Or.inr ⟨k, hk, hn, h3.1, h3.2⟩
        · exact Or.inl (Or.inr ⟨j, by omega, k, hk, hn, h⟩)
/-- how long the shortest way is, by the flood -/
theorem fwd_lwn {b gl : Nat} (hb0 : b < 16) (hg : gl < 16) {i : Nat} (hi : i < 99) : fwd st b i gl ↔ lwn st b gl ≤ i := by
  rw [fwd_ex hb0 hg]
  unfold lwn
  by_cases h : b = gl
  · rw [ifc_t h]; exact ⟨fun _ => Nat.zero_le _, fun _ => Or.inl h⟩
  · rw [ifc_f h]
    constructor
    · rintro (q | ⟨j, hj, k, hk, hn, hr⟩)
      · exact absurd q h
      · have h1 := near_le (st := st) (gl := gl) hk hn
        have h2 := dst_le hn hr
        omega
    · intro hle
      obtain ⟨k, hk, hn, he⟩ := near_ex (st := st) (gl := gl) (b := b) (by omega)
      exact Or.inr ⟨dst st gl (nb b k), by omega, k, hk, hn, dst_rch hn (by omega)⟩
theorem bitc_lt {x y : Int32} : ∀ n, n ≤ 16 → (∀ c, c < n → hb x c → hb y c) → bitc x n ≤ bitc y n ∧ ((∃ c, c < n ∧ hb y c ∧ ¬ hb x c) → bitc x n + 1 ≤ bitc y n)
  | 0, _, _ => ⟨Nat.le_refl _, fun ⟨c, h, _⟩ => absurd h (Nat.not_lt_zero c)⟩
  | n + 1, hn, h => by
    obtain ⟨h1, h2⟩ := bitc_lt n (by omega) (fun c hc => h c (by omega))
    show bitc x n + ifc (hb x n) 1 0 ≤ bitc y n + ifc (hb y n) 1 0 ∧ (_ → bitc x n + ifc (hb x n) 1 0 + 1 ≤ bitc y n + ifc (hb y n) 1 0)
    by_cases q : hb x n
    · have q2 := h n (by omega) q
      rw [ifc_t q, ifc_t q2]
      refine ⟨by omega, fun ⟨c, hc, hy, hx⟩ => ?_⟩
      by_cases e : c = n
      · subst e; exact absurd q hx
      · have h3 := h2 ⟨c, by omega, hy, hx⟩; omega
    · rw [ifc_f q]
      by_cases q2 : hb y n
      · rw [ifc_t q2]; exact ⟨by omega, fun _ => by omega⟩
      · rw [ifc_f q2]
        refine ⟨by omega, fun ⟨c, hc, hy, hx⟩ => ?_⟩
        by_cases e : c = n
        · subst e; exact absurd hy q2
        · have h3 := h2 ⟨c, by omega, hy, hx⟩; omega
theorem flo_grow {x0 : Int32} (h0 : s16 x0) {c0 : Nat} (hc0 : c0 < 16) (hx : hb x0 c0) : ∀ i, (∀ j, j < i → flo st x0 (j + 1) ≠ flo st x0 j) → i + 1 ≤ bitc (flo st x0 i) 16
  | 0, _ => by
    have h := (bitc_lt (x := 0) (y := x0) 16 (Nat.le_refl _) (fun c hc q => absurd q (hb_0 (by omega)))).2 ⟨c0, hc0, hx, hb_0 (by omega)⟩
    show 1 ≤ bitc x0 16
    omega
  | i + 1, h => by
    have ih := flo_grow h0 hc0 hx i (fun j hj => h j (by omega))
    have h1 := (bitc_lt (x := flo st x0 i) (y := flo st x0 (i + 1)) 16 (Nat.le_refl _) (fun c hc q => (flo_hb h0 hc).mpr (Or.inl q))).2 (Classical.byContradiction fun q => h i (by omega) (s16_ext (flo_16 h0 _) (flo_16 h0 _) (fun c hc => ⟨fun z => Classical.byContradiction fun z2 => q ⟨c, hc, z, z2⟩, fun z => (flo_hb h0 hc).mpr (Or.inl z)⟩)))
    omega
theorem lwn_15 {b gl : Nat} (hb0 : b < 16) (hg : gl < 16) (h : lwn st b gl < 99) : lwn st b gl ≤ 15 := by
  refine Classical.byContradiction fun q => ?_
  have hg0 : hb ((1 : Int32) <<< (nI b &&& 31)) b := (hb_one (by omega) (by omega)).mpr rfl
  have h1 := flo_grow (st := st) (s16_one hb0) hb0 hg0 16 (fun j hj e => by
    have h2 := (fwd_lwn (st := st) hb0 hg h).mpr (Nat.le_refl _)
    rw [← fwd_hb hb0 _ _ hg, flo_fix e _ (by omega), fwd_hb hb0 _ _ hg, fwd_lwn hb0 hg (by omega)] at h2
    omega)
  have h2 := bitc_le (flo st ((1 : Int32) <<< (nI b &&& 31)) 16) 16
  omega
end
