/-! Bytes in cells -/
section BY
variable {N : Nat}
theorem q_dv {k : Nat} (h : k < 2147483648) : nI k / nI 4 = nI (k / 4) := by
  apply Int32.toInt_inj.mp
  rw [Int32.toInt_div, nI_toInt (by omega), nI_toInt (by omega), nI_toInt (by omega)]
  have : ((k : Nat) : Int).tdiv ((4 : Nat) : Int) = ((k / 4 : Nat) : Int) := rfl
  rw [this]
  apply Int.bmod_eq_of_le <;> omega
theorem r_and' (a : Nat) : nI a &&& nI 255 = nI (a % 256) := by
  have : nI a &&& nI 255 = _ := pk_and (nI a) 8 (by decide)
  rw [nI_tn] at this
  rw [this]
  have e : a % 4294967296 % 2 ^ 8 = a % 256 := by omega
  rw [e]
theorem w4_lt {b : Nat → Nat} (hb : ∀ i, b i < 256) (j : Nat) : w4 b j < 4294967296 ∧ w4R b j < 4294967296 := by
  unfold w4 w4R
  have h0 := hb (4 * j)
  have h1 := hb (4 * j + 1)
  have h2 := hb (4 * j + 2)
  have h3 := hb (4 * j + 3)
  omega
theorem w4_byte {b : Nat → Nat} (hb : ∀ i, b i < 256) (j r : Nat) (hr : r < 4) : w4 b j / 2 ^ (24 - 8 * r) % 256 = b (4 * j + r) ∧ w4R b j / 2 ^ (8 * r) % 256 = b (4 * j + r) := by
  unfold w4 w4R
  have h0 := hb (4 * j)
  have h1 := hb (4 * j + 1)
  have h2 := hb (4 * j + 2)
  have h3 := hb (4 * j + 3)
  rcases (show r = 0 ∨ r = 1 ∨ r = 2 ∨ r = 3 by omega) with rfl | rfl | rfl | rfl
  · rw [show 2 ^ (24 - 8 * 0) = 16777216 by decide, show 2 ^ (8 * 0) = 1 by decide, show 4 * j + 0 = 4 * j by omega]; omega
  · rw [show 2 ^ (24 - 8 * 1) = 65536 by decide, show 2 ^ (8 * 1) = 256 by decide]; omega
  · rw [show 2 ^ (24 - 8 * 2) = 256 by decide, show 2 ^ (8 * 2) = 65536 by decide]; omega
  · rw [show 2 ^ (24 - 8 * 3) = 1 by decide, show 2 ^ (8 * 3) = 16777216 by decide]; omega
theorem or_mid {hi lo x m : Nat} (hlo : lo < 2 ^ m) (hx : x < 256) : (hi * 2 ^ (m + 8) + lo) ||| x * 2 ^ m = hi * 2 ^ (m + 8) + x * 2 ^ m + lo := by
  have hp : (2 : Nat) ^ (m + 8) = 2 ^ m * 256 := by rw [Nat.pow_add]
  have h1 : lo < 2 ^ (m + 8) := by rw [hp]; omega
  have hX : x * 2 ^ m < 2 ^ (m + 8) := by rw [hp, Nat.mul_comm]; exact Nat.mul_lt_mul_of_pos_left hx (Nat.two_pow_pos m)
  have a1 := Nat.shiftLeft_add_eq_or_of_lt h1 hi
  have a2 := Nat.shiftLeft_add_eq_or_of_lt hX hi
  rw [Nat.shiftLeft_eq] at a1 a2
  have a3 := Nat.shiftLeft_add_eq_or_of_lt hlo (hi * 256 + x)
  rw [Nat.shiftLeft_eq] at a3
  have e : (hi * 256 + x) * 2 ^ m = hi * 2 ^ (m + 8) + x * 2 ^ m := by
    rw [hp, Nat.add_mul]
    congr 1
    rw [Nat.mul_assoc, Nat.mul_comm 256]
  rw [e] at a3
  rw [a1, Nat.or_assoc, Nat.or_comm lo, ← Nat.or_assoc, ← a2, ← a3]
/-- a byte set where 0 stood -/
theorem w4_set {b : Nat → Nat} (hb : ∀ i, b i < 256) (j r x : Nat) (hr : r < 4) (hx : x < 256) (h0 : b (4 * j + r) = 0) : w4 b j ||| x * 2 ^ (24 - 8 * r) = w4 (upN b (4 * j + r) x) j ∧ w4R b j ||| x * 2 ^ (8 * r) = w4R (upN b (4 * j + r) x) j := by
  have g0 := hb (4 * j)
  have g1 := hb (4 * j + 1)
  have g2 := hb (4 * j + 2)
  have g3 := hb (4 * j + 3)
  unfold w4 w4R
  rcases (show r = 0 ∨ r = 1 ∨ r = 2 ∨ r = 3 by omega) with rfl | rfl | rfl | rfl
  · rw [show 4 * j + 0 = 4 * j by omega] at h0
    rw [show 4 * j + 0 = 4 * j by omega, upN_e rfl, upN_n (show 4 * j + 1 ≠ 4 * j by omega), upN_n (show 4 * j + 2 ≠ 4 * j by omega), upN_n (show 4 * j + 3 ≠ 4 * j by omega), h0]
    have e1 := or_mid (hi := 0) (lo := b (4 * j + 1) * 65536 + b (4 * j + 2) * 256 + b (4 * j + 3)) (x := x) (m := 24) (by omega) hx
    have e2 := or_mid (hi := b (4 * j + 1) + b (4 * j + 2) * 256 + b (4 * j + 3) * 65536) (lo := 0) (x := x) (m := 0) (by omega) hx
    refine ⟨?_, ?_⟩
    · rw [show 24 - 8 * 0 = 24 by omega, show 0 * 16777216 + b (4 * j + 1) * 65536 + b (4 * j + 2) * 256 + b (4 * j + 3) = 0 * 2 ^ (24 + 8) + (b (4 * j + 1) * 65536 + b (4 * j + 2) * 256 + b (4 * j + 3)) by omega, e1]; omega
    · rw [show 8 * 0 = 0 by omega, show 0 + b (4 * j + 1) * 256 + b (4 * j + 2) * 65536 + b (4 * j + 3) * 16777216 = (b (4 * j + 1) + b (4 * j + 2) * 256 + b (4 * j + 3) * 65536) * 2 ^ (0 + 8) + 0 by omega, e2]; omega
  · rw [upN_n (show 4 * j ≠ 4 * j + 1 by omega), upN_e rfl, upN_n (show 4 * j + 2 ≠ 4 * j + 1 by omega), upN_n (show 4 * j + 3 ≠ 4 * j + 1 by omega), h0]
    have e1 := or_mid (hi := b (4 * j)) (lo := b (4 * j + 2) * 256 + b (4 * j + 3)) (x := x) (m := 16) (by omega) hx
    have e2 := or_mid (hi := b (4 * j + 2) + b (4 * j + 3) * 256) (lo := b (4 * j)) (x := x) (m := 8) (by omega) hx
    refine ⟨?_, ?_⟩
    · rw [show 24 - 8 * 1 = 16 by omega, show b (4 * j) * 16777216 + 0 * 65536 + b (4 * j + 2) * 256 + b (4 * j + 3) = b (4 * j) * 2 ^ (16 + 8) + (b (4 * j + 2) * 256 + b (4 * j + 3)) by omega, e1]; omega
    · rw [show 8 * 1 = 8 by omega, show b (4 * j) + 0 * 256 + b (4 * j + 2) * 65536 + b (4 * j + 3) * 16777216 = (b (4 * j + 2) + b (4 * j + 3) * 256) * 2 ^ (8 + 8) + b (4 * j) by omega, e2]; omega
  · rw [upN_n (show 4 * j ≠ 4 * j + 2 by omega), upN_n (show 4 * j + 1 ≠ 4 * j + 2 by omega), upN_e rfl, upN_n (show 4 * j + 3 ≠ 4 * j + 2 by omega), h0]
    have e1 := or_mid (hi := b (4 * j) * 256 + b (4 * j + 1)) (lo := b (4 * j + 3)) (x := x) (m := 8) (by omega) hx
    have e2 := or_mid (hi := b (4 * j + 3)) (lo := b (4 * j) + b (4 * j + 1) * 256) (x := x) (m := 16) (by omega) hx
    refine ⟨?_, ?_⟩
    · rw [show 24 - 8 * 2 = 8 by omega, show b (4 * j) * 16777216 + b (4 * j + 1) * 65536 + 0 * 256 + b (4 * j + 3) = (b (4 * j) * 256 + b (4 * j + 1)) * 2 ^ (8 + 8) + b (4 * j + 3) by omega, e1]; omega
    · rw [show 8 * 2 = 16 by omega, show b (4 * j) + b (4 * j + 1) * 256 + 0 * 65536 + b (4 * j + 3) * 16777216 = b (4 * j + 3) * 2 ^ (16 + 8) + (b (4 * j) + b (4 * j + 1) * 256) by omega, e2]; omega
  · rw [upN_n (show 4 * j ≠ 4 * j + 3 by omega), upN_n (show 4 * j + 1 ≠ 4 * j + 3 by omega), upN_n (show 4 * j + 2 ≠ 4 * j + 3 by omega), upN_e rfl, h0]
    have e1 := or_mid (hi := b (4 * j) * 65536 + b (4 * j + 1) * 256 + b (4 * j + 2)) (lo := 0) (x := x) (m := 0) (by omega) hx
    have e2 := or_mid (hi := 0) (lo := b (4 * j) + b (4 * j + 1) * 256 + b (4 * j + 2) * 65536) (x := x) (m := 24) (by omega) hx
    refine ⟨?_, ?_⟩
    · rw [show 24 - 8 * 3 = 0 by omega, show b (4 * j) * 16777216 + b (4 * j + 1) * 65536 + b (4 * j + 2) * 256 + 0 = (b (4 * j) * 65536 + b (4 * j + 1) * 256 + b (4 * j + 2)) * 2 ^ (0 + 8) + 0 by omega, e1]; omega
    · rw [show 8 * 3 = 24 by omega, show b (4 * j) + b (4 * j + 1) * 256 + b (4 * j + 2) * 65536 + 0 * 16777216 = 0 * 2 ^ (24 + 8) + (b (4 * j) + b (4 * j + 1) * 256 + b (4 * j + 2) * 65536) by omega, e2]; omega
end BY
