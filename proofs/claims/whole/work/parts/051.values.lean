/-! The engine's words as numbers (a draft, not yet tried) -/
theorem nI_mod (n : Nat) : nI n = nI (n % 4294967296) := by
  apply Int32.toBitVec_inj.mp
  show BitVec.ofNat 32 n = BitVec.ofNat 32 (n % 4294967296)
  apply BitVec.eq_of_toNat_eq
  rw [BitVec.toNat_ofNat, BitVec.toNat_ofNat]
  omega
theorem nI_wrap (i k : Nat) : nI (i * 4294967296 + k) = nI k := by
  rw [nI_mod, nI_mod k]
  congr 1
  omega
theorem nI_tn (n : Nat) : (nI n).toBitVec.toNat = n % 4294967296 := by
  show (BitVec.ofNat 32 n).toNat = _
  rw [BitVec.toNat_ofNat]
/-- the words: a scalar, a name, an object's address with its kind, a head -/
def scW (v : Int32) : Int64 := v.toInt64 <<< ((3 : Int32).toInt64 &&& 63)
def nmW (k i : Nat) : Int64 := lN (i * 34359738368 + k * 8 + 1)
def obW (K a : Nat) : Int64 := lN (a * 8 + K)
def hdW (K : Nat) (num : Int32) (cnt : Nat) : Int64 := lN (cnt * 34359738368 + num.toBitVec.toNat * 8 + K)
theorem kd_lN (n : Nat) : (lN n).toInt32 &&& 7 = nI (n % 8) := by
  rw [lN_i, pk_and _ 3 (by decide), nI_tn]
  congr 1
  omega
theorem num_lN {n : Nat} (h : n < 2 ^ 62) : (lN n >>> ((3 : Int32).toInt64 &&& 63)).toInt32 = nI (n / 8) := by
  rw [pf_shr (d := 3) (by decide) h, lN_i]
theorem scW_mul (v : Int32) : ∃ a, v.toInt64 = lN a ∧ scW v = lN (a * 8) := by
  obtain ⟨a, -, ha⟩ := wb_of v.toInt64
  refine ⟨a, ha, ?_⟩
  unfold scW
  rw [ha, show (3 : Int32) = nI 3 from rfl, wb_shl a (by decide)]
theorem kd_sc (v : Int32) : (scW v).toInt32 &&& 7 = 0 := by
  obtain ⟨a, -, h⟩ := scW_mul v
  rw [h, kd_lN, Nat.mul_mod_left]
  rfl
theorem kd_nm (k i : Nat) : (nmW k i).toInt32 &&& 7 = 1 := by
  unfold nmW
  rw [kd_lN, show (i * 34359738368 + k * 8 + 1) % 8 = 1 by omega]
  rfl
theorem kd_ob {K : Nat} (hK : K < 8) (a : Nat) : (obW K a).toInt32 &&& 7 = nI K := by
  unfold obW
  rw [kd_lN, show (a * 8 + K) % 8 = K by omega]
theorem kd_hd {K : Nat} (hK : K < 8) (num : Int32) (cnt : Nat) : (hdW K num cnt).toInt32 &&& 7 = nI K := by
  unfold hdW
  rw [kd_lN, show (cnt * 34359738368 + num.toBitVec.toNat * 8 + K) % 8 = K by omega]
theorem num_nm {k i : Nat} (hk : k < 4294967296) (hi : i < 134217728) : (nmW k i >>> ((3 : Int32).toInt64 &&& 63)).toInt32 = nI k := by
  unfold nmW
  rw [num_lN (by omega), show (i * 34359738368 + k * 8 + 1) / 8 = i * 4294967296 + k by omega, nI_wrap]
theorem num_ob {K a : Nat} (hK : K < 8) (ha : a < 4294967296) : (obW K a >>> ((3 : Int32).toInt64 &&& 63)).toInt32 = nI a := by
  unfold obW
  rw [num_lN (by omega), show (a * 8 + K) / 8 = a by omega]
theorem num_hd {K cnt : Nat} (hK : K < 8) (num : Int32) (hc : cnt < 134217728) : (hdW K num cnt >>> ((3 : Int32).toInt64 &&& 63)).toInt32 = num := by
  have hl := num.toBitVec.isLt
  unfold hdW
  rw [num_lN (by omega), show (cnt * 34359738368 + num.toBitVec.toNat * 8 + K) / 8 = cnt * 4294967296 + num.toBitVec.toNat by omega, nI_wrap]
  apply Int32.toBitVec_inj.mp
  show BitVec.ofNat 32 _ = _
  simp
