/-! Integer.bitCount -/
def bc1 (n : Nat) : Nat := Nat.sub n (Nat.land (Nat.div n 2) 1431655765)
def bc2 (n : Nat) : Nat := Nat.add (Nat.land n 858993459) (Nat.land (Nat.div n 4) 858993459)
def bc3 (n : Nat) : Nat := Nat.land (Nat.add n (Nat.div n 16)) 252645135
def bc4 (n : Nat) : Nat := Nat.add n (Nat.div n 256)
def bc5 (n : Nat) : Nat := Nat.add n (Nat.div n 65536)
def bcN (n : Nat) : Nat := Nat.land (bc5 (bc4 (bc3 (bc2 (bc1 n))))) 63
def pop16 (n : Nat) : Nat := Nat.add (Nat.mod (Nat.div n 1) 2) (Nat.add (Nat.mod (Nat.div n 2) 2) (Nat.add (Nat.mod (Nat.div n 4) 2) (Nat.add (Nat.mod (Nat.div n 8) 2) (Nat.add (Nat.mod (Nat.div n 16) 2) (Nat.add (Nat.mod (Nat.div n 32) 2) (Nat.add (Nat.mod (Nat.div n 64) 2) (Nat.add (Nat.mod (Nat.div n 128) 2) (Nat.add (Nat.mod (Nat.div n 256) 2) (Nat.add (Nat.mod (Nat.div n 512) 2) (Nat.add (Nat.mod (Nat.div n 1024) 2) (Nat.add (Nat.mod (Nat.div n 2048) 2) (Nat.add (Nat.mod (Nat.div n 4096) 2) (Nat.add (Nat.mod (Nat.div n 8192) 2) (Nat.add (Nat.mod (Nat.div n 16384) 2) (Nat.mod (Nat.div n 32768) 2)))))))))))))))
def allB (f : Nat → Bool) : Nat → Bool
  | 0 => true
  | n + 1 => f n && allB f n
theorem allB_at {f : Nat → Bool} : ∀ n, allB f n = true → ∀ k, k < n → f k = true
  | 0, _, k, h => absurd h (Nat.not_lt_zero k)
  | n + 1, h, k, hk => by
    have h : (f n && allB f n) = true := h
    rw [Bool.and_eq_true] at h
    by_cases e : k = n
    · subst e; exact h.1
    · exact allB_at n h.2 k (by omega)
def lowN (n : Nat) : Nat := Nat.sub (Nat.land n (Nat.sub 4294967296 n)) 1
def lowC (n r : Nat) : Bool := Nat.beq (Nat.mod (Nat.div n (Nat.pow 2 r)) 2) 1 && (Nat.beq (Nat.mod n (Nat.pow 2 r)) 0 && Nat.blt r 16)
def bcT (n : Nat) : Bool := Nat.beq (bcN n) (pop16 n) && (Nat.beq n 0 || lowC n (bcN (lowN n)))
set_option maxRecDepth 100000 in
theorem bc_chk : allB (fun h => allB (fun l => bcT (Nat.add (Nat.mul 256 h) l)) 256) 256 = true := by decide +kernel
theorem bc_at (n : Nat) (hn : n < 65536) : bcT n = true := by
  have key : ∀ f : Nat → Nat → Bool, allB (fun h => allB (fun l => f h l) 256) 256 = true → ∀ h, h < 256 → ∀ l, l < 256 → f h l = true := fun f hf h hh l hl => allB_at 256 (allB_at (f := fun h => allB (fun l => f h l) 256) 256 hf h hh) l hl
  have h := key (fun h l => bcT (Nat.add (Nat.mul 256 h) l)) bc_chk (n / 256) (by omega) (n % 256) (by omega)
  have e : Nat.add (Nat.mul 256 (n / 256)) (n % 256) = n := Nat.div_add_mod n 256
  have h : bcT (Nat.add (Nat.mul 256 (n / 256)) (n % 256)) = true := h
  rw [e] at h
  exact h
