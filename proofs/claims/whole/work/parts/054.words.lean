/-! Kind, number and count of a word -/
def kdW (w : Int64) : Int32 := w.toInt32 &&& nI 7
def nuW (w : Int64) : Int32 := (w >>> ((nI 3).toInt64 &&& 63)).toInt32
def cnW (w : Int64) : Int32 := (w.toUInt64 >>> ((nI 35).toInt64.toUInt64 &&& Int64.toUInt64 63)).toInt64.toInt32
theorem f_kd (w : Int64) : w.toInt32 &&& nI 7 = kdW w := rfl
theorem f_nu (w : Int64) : (w >>> ((nI 3).toInt64 &&& 63)).toInt32 = nuW w := rfl
theorem f_cn (w : Int64) : (w.toUInt64 >>> ((nI 35).toInt64.toUInt64 &&& Int64.toUInt64 63)).toInt64.toInt32 = cnW w := rfl
theorem f_sc (v : Int32) : v.toInt64 <<< ((nI 3).toInt64 &&& 63) = scW v := rfl
theorem i32_bd (v : Int32) : -2147483648 ≤ v.toInt ∧ v.toInt < 2147483648 := ⟨by have := Int32.le_toInt v; omega, by have := Int32.toInt_lt v; omega⟩
theorem scW_toInt (v : Int32) : (scW v).toInt = v.toInt * 8 := by
  obtain ⟨a, h1, h2⟩ := scW_mul v
  have e : scW v = v.toInt64 * 8 := by rw [h2, h1]; exact (lN_mul a 8).symm
  have hb := i32_bd v
  rw [e, Int64.toInt_mul, Int32.toInt_toInt64, show (8 : Int64).toInt = 8 by decide]
  apply Int.bmod_eq_of_le <;> omega
theorem nu_sc (v : Int32) : nuW (scW v) = v := by
  apply Int32.toInt_inj.mp
  have hb := i32_bd v
  have e : (scW v >>> ((nI 3).toInt64 &&& 63)).toInt = (scW v).toInt >>> (3 : Nat) := by
    rw [show ((3 : Nat)) = ((((nI 3).toInt64 &&& 63).toBitVec.smod 64).toNat) by decide]
    exact BitVec.toInt_sshiftRight ..
  unfold nuW
  rw [Int64.toInt_toInt32, e, scW_toInt, Int.shiftRight_eq_div_pow]
  have e2 : v.toInt * 8 / ((2 ^ 3 : Nat) : Int) = v.toInt := by
    show v.toInt * 8 / 8 = v.toInt
    omega
  rw [e2]
  apply Int.bmod_eq_of_le <;> omega
theorem scW_inj {v w : Int32} (h : scW v = scW w) : v = w := by rw [← nu_sc v, ← nu_sc w, h]
theorem lN_inj {a b : Nat} (ha : a < 2 ^ 63) (hb : b < 2 ^ 63) (h : lN a = lN b) : a = b := by
  have e := congrArg Int64.toInt h
  rw [pf_lI ha, pf_lI hb] at e
  omega
theorem i32_tn {k : Nat} (h : k < 4294967296) : (nI k).toBitVec.toNat = k := by rw [nI_tn]; omega
theorem f_ob {K a : Nat} (hK : K < 8) (ha : a < 2147483648) : ((nI a).toInt64 <<< ((nI 3).toInt64 &&& 63)) ||| (nI K).toInt64 = obW K a := by
  rw [q_l ha, q_l (n := K) (by omega), wb_shl a (by decide)]
  exact g_or (k := 3) (p := 8) (by decide) hK (by omega)
theorem f_ob' {K a : Nat} (hK : K < 8) (ha : a < 2147483648) : scW (nI a) ||| (nI K).toInt64 = obW K a := f_ob hK ha
theorem u32_l (num : Int32) : num.toInt64 &&& 4294967295 = lN num.toBitVec.toNat := by
  apply wb_inj
  rw [Int64.toBitVec_and, wb_tb]
  apply BitVec.eq_of_toNat_eq
  have h1 : (num.toInt64).toBitVec = num.toBitVec.signExtend 64 := rfl
  have h2 : (4294967295 : Int64).toBitVec.toNat = 2 ^ 32 - 1 := by decide
  have hl := num.toBitVec.isLt
  rw [BitVec.toNat_and, h2, Nat.and_two_pow_sub_one_eq_mod, h1, BitVec.toNat_ofNat]
  rw [Nat.mod_eq_of_lt (show num.toBitVec.toNat < 2 ^ 64 by omega)]
  rw [BitVec.toNat_signExtend, BitVec.toNat_setWidth]
  split <;> omega
theorem f_hd {K c : Nat} (num : Int32) (hK : K < 8) (hc : c < 134217728) : (((nI c).toInt64 <<< ((nI 35).toInt64 &&& 63)) ||| ((num.toInt64 &&& 4294967295) <<< ((nI 3).toInt64 &&& 63))) ||| (nI K).toInt64 = hdW K num c := by
  have hl := num.toBitVec.isLt
  rw [u32_l, q_l (n := c) (by omega), q_l (n := K) (by omega), wb_shl c (by decide), wb_shl _ (by decide)]
  have e1 : lN (c * 2 ^ 35) ||| lN (num.toBitVec.toNat * 2 ^ 3) = lN (c * 2 ^ 35 + num.toBitVec.toNat * 2 ^ 3) := g_or (k := 35) (p := 2 ^ 35) rfl (by omega) (by omega)
  rw [e1]
  have e2 : c * 2 ^ 35 + num.toBitVec.toNat * 2 ^ 3 = (c * 2 ^ 32 + num.toBitVec.toNat) * 8 := by omega
  rw [e2, g_or (k := 3) (p := 8) (by decide) hK (by omega)]
  unfold hdW
  congr 1
  omega
theorem and_m8 {n : Nat} (h : n < 2 ^ 64) : lN n &&& (-8) = lN (n / 8 * 8) := by
  apply wb_inj
  rw [Int64.toBitVec_and, wb_tb, wb_tb]
  have e : (-8 : Int64).toBitVec = ~~~ (7#64) := by decide
  have e7 : lN n &&& lN 7 = lN (n % 8) := wb_mask (k := 3) h (by decide)
  have e8 : BitVec.ofNat 64 n = BitVec.ofNat 64 (n / 8 * 8) ||| BitVec.ofNat 64 (n % 8) := by
    have := g_or (k := 3) (p := 8) (a := n % 8) (b := n / 8) (by decide) (by omega) (by omega)
    have h2 := congrArg Int64.toBitVec this
    rw [Int64.toBitVec_or, wb_tb, wb_tb, wb_tb] at h2
    rw [h2]
    congr 1
    omega
  rw [e]
  apply BitVec.eq_of_getLsbD_eq
  intro i hi
  have hx : (BitVec.ofNat 64 n).getLsbD i = ((BitVec.ofNat 64 (n / 8 * 8)).getLsbD i || (BitVec.ofNat 64 (n % 8)).getLsbD i) := by rw [e8, BitVec.getLsbD_or]
  have hlow : i < 3 → (BitVec.ofNat 64 (n / 8 * 8)).getLsbD i = false := by
    intro h3
    rw [BitVec.getLsbD_ofNat]
    have : (n / 8 * 8).testBit i = false := by
      rw [show (8 : Nat) = 2 ^ 3 from rfl, Nat.testBit_mul_two_pow]
      simp
      omega
    rw [this, Bool.and_false]
  have hhigh : 3 ≤ i → (BitVec.ofNat 64 (n % 8)).getLsbD i = false := by
    intro h3
    rw [BitVec.getLsbD_ofNat]
    have : (n % 8).testBit i = false := Nat.testBit_lt_two_pow (Nat.lt_of_lt_of_le (Nat.mod_lt _ (by decide)) (show 8 ≤ 2 ^ i from Nat.pow_le_pow_right (n := 2) (by decide) h3))
    rw [this, Bool.and_false]
  have h7 : (7#64).getLsbD i = decide (i < 3) := by
    rw [BitVec.getLsbD_ofNat]
    have : (7 : Nat).testBit i = decide (i < 3) := by
      rw [show (7 : Nat) = 2 ^ 3 - 1 from rfl, Nat.testBit_two_pow_sub_one]
    rw [this]
    simp [hi]
  rw [BitVec.getLsbD_and, BitVec.getLsbD_not, h7, hx]
  by_cases h3 : i < 3
  · rw [hlow h3]; simp [h3]
  · rw [hhigh (by omega)]; simp [h3, hi]
theorem wk_nm {k i : Nat} (hk : k < 4294967296) (hi : i < 134217728) : (nmW k i &&& (-8)) ||| (nI 7).toInt64 = hdW 7 (nI k) i := by
  unfold nmW hdW
  rw [i32_tn hk, and_m8 (by omega), q_l (by omega), g_or (k := 3) (p := 8) (by decide) (by decide) (by omega)]
  congr 1
  omega
theorem wk_hd {k i : Nat} (hk : k < 4294967296) (hi : i < 134217728) : (hdW 7 (nI k) i &&& (-8)) ||| (nI 1).toInt64 = nmW k i := by
  unfold nmW hdW
  rw [i32_tn hk, and_m8 (by omega), q_l (by omega), g_or (k := 3) (p := 8) (by decide) (by decide) (by omega)]
  congr 1
  omega
theorem cn_lN {n : Nat} (h : n < 2 ^ 62) : cnW (lN n) = nI (n / 34359738368) := by
  unfold cnW
  rw [wb_shr (by omega) (by decide), lN_i]
theorem cn_hd {K c : Nat} (num : Int32) (hK : K < 8) (hc : c < 134217728) : cnW (hdW K num c) = nI c := by
  have hl := num.toBitVec.isLt
  unfold hdW
  rw [cn_lN (by omega)]
  congr 1
  omega
theorem scW_0 : scW (nI 0) = 0 := by decide +kernel
theorem scW_1 : scW (nI 1) = 8 := by decide +kernel
/-- a string's head -/
theorem f_hs {n : Nat} (hn : n < 134217728) : hdW 6 (nI n) 0 = lN (n * 8 + 6) := by
  unfold hdW
  rw [i32_tn (by omega), Nat.zero_mul, Nat.zero_add]
/-! the same of the words of values and heads -/
theorem kd_wE {G : Nat → GO} {l : List Nat} {v : AV} (h : kV G v < 8) : kdW (wE G l v) = nI (kV G v) := by
  rcases v with n | ⟨k, i⟩ | o
  · exact kd_sc n
  · exact kd_nm k i
  · exact kd_ob h _
theorem nu_wE {nk : Nat → Nat} {nm : Nat} {G : Nat → GO} {l : List Nat} {v : AV} (h : kV G v < 8) (hv : okV nk nm l v) (hn : nm < 134217728) (hl : tot (gZ G) l ≤ 131072) : nuW (wE G l v) = nE G l v := by
  rcases v with n | ⟨k, i⟩ | o
  · exact nu_sc n
  · exact num_nm (by have := hv.1; omega) (by have := hv.2.2.1; omega)
  · have h2 := adr_end (Z := gZ G) hv
    exact num_ob h (by omega)
theorem kd_hE {G : Nat → GO} {o : Nat} (h : gK G o < 8) : kdW (hE G o) = nI (gK G o) := by
  unfold hE
  split
  · rename_i e
    rw [e]
    exact (kd_lN _).trans (by congr 1; omega)
  · exact kd_hd h _ _
