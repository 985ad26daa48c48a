/-! Ints that stand for numbers: how a condition is decided -/
theorem q_o (n : Nat) : Int32.ofNat n = nI n := rfl
theorem q_0 : (0 : Int32) = nI 0 := rfl
theorem q_1 : (1 : Int32) = nI 1 := rfl
theorem q_2 : (2 : Int32) = nI 2 := rfl
theorem q_3 : (3 : Int32) = nI 3 := rfl
theorem q_4 : (4 : Int32) = nI 4 := rfl
theorem q_5 : (5 : Int32) = nI 5 := rfl
theorem q_6 : (6 : Int32) = nI 6 := rfl
theorem q_7 : (7 : Int32) = nI 7 := rfl
theorem q_8 : (8 : Int32) = nI 8 := rfl
theorem q_9 : (9 : Int32) = nI 9 := rfl
theorem q_10 : (10 : Int32) = nI 10 := rfl
theorem q_11 : (11 : Int32) = nI 11 := rfl
theorem q_12 : (12 : Int32) = nI 12 := rfl
theorem q_13 : (13 : Int32) = nI 13 := rfl
theorem q_14 : (14 : Int32) = nI 14 := rfl
theorem q_15 : (15 : Int32) = nI 15 := rfl
theorem q_16 : (16 : Int32) = nI 16 := rfl
theorem q_17 : (17 : Int32) = nI 17 := rfl
theorem q_18 : (18 : Int32) = nI 18 := rfl
theorem q_19 : (19 : Int32) = nI 19 := rfl
theorem q_20 : (20 : Int32) = nI 20 := rfl
theorem q_21 : (21 : Int32) = nI 21 := rfl
theorem q_22 : (22 : Int32) = nI 22 := rfl
theorem q_23 : (23 : Int32) = nI 23 := rfl
theorem q_24 : (24 : Int32) = nI 24 := rfl
theorem q_25 : (25 : Int32) = nI 25 := rfl
theorem q_26 : (26 : Int32) = nI 26 := rfl
theorem q_27 : (27 : Int32) = nI 27 := rfl
theorem q_28 : (28 : Int32) = nI 28 := rfl
theorem q_29 : (29 : Int32) = nI 29 := rfl
theorem q_30 : (30 : Int32) = nI 30 := rfl
theorem q_31 : (31 : Int32) = nI 31 := rfl
theorem q_32 : (32 : Int32) = nI 32 := rfl
theorem q_33 : (33 : Int32) = nI 33 := rfl
theorem q_34 : (34 : Int32) = nI 34 := rfl
theorem q_35 : (35 : Int32) = nI 35 := rfl
theorem q_36 : (36 : Int32) = nI 36 := rfl
theorem q_37 : (37 : Int32) = nI 37 := rfl
theorem q_38 : (38 : Int32) = nI 38 := rfl
theorem q_39 : (39 : Int32) = nI 39 := rfl
theorem q_40 : (40 : Int32) = nI 40 := rfl
theorem q_41 : (41 : Int32) = nI 41 := rfl
theorem q_42 : (42 : Int32) = nI 42 := rfl
theorem q_43 : (43 : Int32) = nI 43 := rfl
theorem q_44 : (44 : Int32) = nI 44 := rfl
theorem q_45 : (45 : Int32) = nI 45 := rfl
theorem q_46 : (46 : Int32) = nI 46 := rfl
theorem q_47 : (47 : Int32) = nI 47 := rfl
theorem q_48 : (48 : Int32) = nI 48 := rfl
theorem q_49 : (49 : Int32) = nI 49 := rfl
theorem q_50 : (50 : Int32) = nI 50 := rfl
theorem q_51 : (51 : Int32) = nI 51 := rfl
theorem q_52 : (52 : Int32) = nI 52 := rfl
theorem q_53 : (53 : Int32) = nI 53 := rfl
theorem q_63 : (63 : Int32) = nI 63 := rfl
theorem q_64 : (64 : Int32) = nI 64 := rfl
theorem q_126 : (126 : Int32) = nI 126 := rfl
theorem q_128 : (128 : Int32) = nI 128 := rfl
theorem q_255 : (255 : Int32) = nI 255 := rfl
theorem q_512 : (512 : Int32) = nI 512 := rfl
theorem q_1024 : (1024 : Int32) = nI 1024 := rfl
theorem q_1026 : (1026 : Int32) = nI 1026 := rfl
theorem q_2000 : (2000 : Int32) = nI 2000 := rfl
theorem q_2048 : (2048 : Int32) = nI 2048 := rfl
theorem q_2049 : (2049 : Int32) = nI 2049 := rfl
theorem q_4095 : (4095 : Int32) = nI 4095 := rfl
theorem q_4096 : (4096 : Int32) = nI 4096 := rfl
theorem q_8192 : (8192 : Int32) = nI 8192 := rfl
theorem q_16383 : (16383 : Int32) = nI 16383 := rfl
theorem q_65535 : (65535 : Int32) = nI 65535 := rfl
theorem q_65536 : (65536 : Int32) = nI 65536 := rfl
theorem q_69632 : (69632 : Int32) = nI 69632 := rfl
theorem q_131072 : (131072 : Int32) = nI 131072 := rfl
theorem q_132000 : (132000 : Int32) = nI 132000 := rfl
theorem q_262144 : (262144 : Int32) = nI 262144 := rfl
theorem q_300000 : (300000 : Int32) = nI 300000 := rfl
theorem q_1000000 : (1000000 : Int32) = nI 1000000 := rfl
theorem q_lt_t {a b : Nat} (h : a < b) (hb : b < 2147483648) : (nI a < nI b) = True := eq_true ((nI_ltI (by omega) (by omega)).mpr h)
theorem q_lt_f {a b : Nat} (h : b ≤ a) (ha : a < 2147483648) : (nI a < nI b) = False := eq_false (fun h2 => by have := (nI_ltI (by omega) (by omega)).mp h2; omega)
theorem q_le_t {a b : Nat} (h : a ≤ b) (hb : b < 2147483648) : (nI a ≤ nI b) = True := eq_true ((nI_leI (by omega) (by omega)).mpr h)
theorem q_le_f {a b : Nat} (h : b < a) (ha : a < 2147483648) : (nI a ≤ nI b) = False := eq_false (fun h2 => by have := (nI_leI (by omega) (by omega)).mp h2; omega)
theorem q_eq_t {a b : Nat} (h : a = b) : (nI a = nI b) = True := eq_true (by rw [h])
theorem q_eq_f {a b : Nat} (h : a ≠ b) (ha : a < 2147483648) (hb : b < 2147483648) : (nI a = nI b) = False := eq_false (fun h2 => h ((nI_eq (by omega) (by omega)).mp h2))
theorem q_cl {a : Nat} (h : a < 2147483648) : (nI a).toNatClampNeg = a := by
  have := nI_toInt (n := a) (by omega)
  rw [Int32.toNatClampNeg, this]
  rfl
theorem q_add (a b : Nat) : nI a + nI b = nI (a + b) := nI_add a b
theorem q_mul (a b : Nat) : nI a * nI b = nI (a * b) := (Int32.ofNat_mul a b).symm
theorem q_sub {a b : Nat} (h : b ≤ a) : nI a - nI b = nI (a - b) := by
  have e := q_add (a - b) b
  rw [Nat.sub_add_cancel h] at e
  rw [← e, Int32.add_sub_cancel]
theorem q_nle_f {a b : Nat} (h : a < b) : (b ≤ a) = False := eq_false (by omega)
theorem q_nle_t {a b : Nat} (h : b ≤ a) : (b ≤ a) = True := eq_true h
theorem q_nlt_f {a b : Nat} (h : a ≤ b) : (b < a) = False := eq_false (by omega)
theorem q_nlt_t {a b : Nat} (h : b < a) : (b < a) = True := eq_true h
theorem q_neq_f {a b : Nat} (h : a ≠ b) : (a = b) = False := eq_false h
def mI1 : Int32 := -1
def mI2 : Int32 := -2
theorem q_n1 : -nI 1 = mI1 := rfl
theorem q_n2 : -nI 2 = mI2 := rfl
theorem q_m1 {a : Nat} (h : a < 2147483648) : (nI a = mI1) = False := eq_false (fun h2 => by
  have e := nI_toInt (n := a) (by omega)
  rw [h2] at e
  have : mI1.toInt = -1 := by decide
  omega)
theorem q_m1' {a : Nat} (h : a < 2147483648) : (mI1 = nI a) = False := eq_false (fun h2 => by
  have := q_m1 h
  rw [← h2] at this
  simp at this)
theorem q_m2 {a : Nat} (h : a < 2147483648) : (nI a = mI2) = False := eq_false (fun h2 => by
  have e := nI_toInt (n := a) (by omega)
  rw [h2] at e
  have : mI2.toInt = -2 := by decide
  omega)
theorem q_m21 : (mI2 = mI1) = False := by decide +kernel
theorem q_m0 : (nI 0 ≤ mI1) = False := by decide +kernel
theorem q_ml : (mI1 < nI 0) = True := by decide +kernel
theorem q_l {n : Nat} (h : n < 2147483648) : (nI n).toInt64 = lN n := nI_l (by omega)
theorem upd_e {f : Nat → Int32} {k j : Nat} {x : Int32} (h : j = k) : upd f k x j = x := if_pos h
theorem upd_n {f : Nat → Int32} {k j : Nat} {x : Int32} (h : j ≠ k) : upd f k x j = f j := if_neg h
theorem updL_e {f : Nat → Int64} {k j : Nat} {x : Int64} (h : j = k) : vp_updL f k x j = x := if_pos h
theorem updL_n {f : Nat → Int64} {k j : Nat} {x : Int64} (h : j ≠ k) : vp_updL f k x j = f j := if_neg h
theorem updF_e {F : Nat → Nat → Int32} {k j : Nat} {x : Nat → Int32} (h : j = k) : updF F k x j = x := if_pos h
theorem updF_n {F : Nat → Nat → Int32} {k j : Nat} {x : Nat → Int32} (h : j ≠ k) : updF F k x j = F j := if_neg h
theorem let_d {α β : Type} (e : α) (f : α → β) : dz_let e f = f e := rfl
theorem tk_s {α : Type} (k n : Nat) (a : α) (c s : Nat) : dz_tk k n (some (a, c, s)) = some (a, c + k, s + n) := rfl
theorem bind_s {α β : Type} (a : α) (f : α → Option β) : (some a).bind f = f a := rfl
