/-! ===== numbers: longs, quotients, shifts ===== -/
abbrev zr8 (k : Int) : Prop := -9223372036854775808 ≤ k ∧ k < 9223372036854775808
theorem zL_add (a b : Int) : zL a + zL b = zL (a + b) := by
  unfold zL
  rw [Int64.ofInt_add]
theorem zL_sub (a b : Int) : zL a - zL b = zL (a - b) := by
  unfold zL
  rw [Int64.ofInt_sub]
theorem zL_mul (a b : Int) : zL a * zL b = zL (a * b) := by
  unfold zL
  rw [Int64.ofInt_mul]
theorem zL_toI {k : Int} (h : zr8 k) : (zL k).toInt = k := by
  unfold zL
  exact Int64.toInt_ofInt_of_le (by omega) (by omega)
theorem zL_lt {a b : Int} (ha : zr8 a) (hb : zr8 b) : (zL a < zL b) = (a < b) := by
  rw [Int64.lt_iff_toInt_lt, zL_toI ha, zL_toI hb]
theorem zL_le {a b : Int} (ha : zr8 a) (hb : zr8 b) : (zL a ≤ zL b) = (a ≤ b) := by
  rw [Int64.le_iff_toInt_le, zL_toI ha, zL_toI hb]
theorem zL_inj {a b : Int} (ha : zr8 a) (hb : zr8 b) : (zL a = zL b) = (a = b) := by
  apply propext
  constructor
  · intro h
    rw [← zL_toI ha, ← zL_toI hb, h]
  · intro h
    rw [h]
theorem zI_i2l {k : Int} (h : zr k) : (zI k).toInt64 = zL k := by
  have e : (zI k).toInt64.toInt = (zL k).toInt := by
    rw [Int32.toInt_toInt64, zI_toI h, zL_toI ⟨by omega, by omega⟩]
  exact Int64.toInt_inj.1 e
theorem zL_l2i {k : Int} (h : zr8 k) : (zL k).toInt32 = zI k := by
  unfold zL zI
  exact Int64.toInt32_ofInt
theorem zI_div {a b : Int} (ha : 0 ≤ a) (ha' : a < 2147483648) (hb : 0 < b) (hb' : b < 2147483648) : zI a / zI b = zI (a / b) := by
  unfold zI
  rw [← Int.tdiv_eq_ediv_of_nonneg ha, Int32.ofInt_tdiv]
  all_goals (first | (show (-2147483648 : Int) ≤ _; omega) | (show _ ≤ (2147483647 : Int); omega))
theorem zL_div {a b : Int} (ha : 0 ≤ a) (ha' : a < 9223372036854775808) (hb : 0 < b) (hb' : b < 9223372036854775808) : zL a / zL b = zL (a / b) := by
  unfold zL
  rw [← Int.tdiv_eq_ediv_of_nonneg ha, Int64.ofInt_tdiv]
  all_goals (first | (show (-9223372036854775808 : Int) ≤ _; omega) | (show _ ≤ (9223372036854775807 : Int); omega))
theorem zdv_ok {b : Int} {r : Option zA} (hb : 0 < b) (hb' : b < 2147483648) : zdv (zI b) r = r := if_neg (fun h => by rw [zI_eq0 ⟨by omega, hb'⟩] at h; omega)
theorem zdl_ok {b : Int} {r : Option zA} (hb : 0 < b) (hb' : b < 9223372036854775808) : zdl (zL b) r = r := if_neg (fun h => by
  have h : zL b = zL 0 := h
  rw [zL_inj ⟨by omega, hb'⟩ ⟨by decide, by decide⟩] at h
  omega)
theorem zL_shr {k c : Int} (hk : 0 ≤ k) (hk' : k < 9223372036854775808) (hc : 0 ≤ c) (hc' : c < 64) : zL k >>> ((zI c).toInt64 &&& 63) = zL (k / 2 ^ c.toNat) := by
  rw [zI_i2l ⟨by omega, by omega⟩]
  obtain ⟨m, rfl⟩ := Int.eq_ofNat_of_zero_le hc
  obtain ⟨j, rfl⟩ := Int.eq_ofNat_of_zero_le hk
  have h63 : (zL (m : Int) &&& 63) = zL (m : Int) := by
    have : ∀ q : Fin 64, (zL ((q.1 : Nat) : Int) &&& 63) = zL ((q.1 : Nat) : Int) := by decide +kernel
    exact this ⟨m, by omega⟩
  rw [h63]
  apply Int64.toInt_inj.1
  have hs : (zL (m : Int)).toBitVec.smod 64 = BitVec.ofNat 64 m := by
    have : ∀ q : Fin 64, (zL ((q.1 : Nat) : Int)).toBitVec.smod 64 = BitVec.ofNat 64 q.1 := by decide +kernel
    exact this ⟨m, by omega⟩
  rw [← Int64.toInt_toBitVec, Int64.toBitVec_shiftRight, hs, zL_toI ⟨by
    have : 0 ≤ (j : Int) / 2 ^ (m : Int).toNat := Int.ediv_nonneg (by omega) (Int.le_of_lt (Int.pow_pos (by decide)))
    omega, by
    have : (j : Int) / 2 ^ (m : Int).toNat ≤ j := Int.ediv_le_self _ (by omega)
    omega⟩]
  show ((zL (j : Int)).toBitVec.sshiftRight (BitVec.ofNat 64 m).toNat).toInt = _
  rw [BitVec.toInt_sshiftRight, Int64.toInt_toBitVec, zL_toI ⟨by omega, by omega⟩, Int.shiftRight_eq_div_pow, BitVec.toNat_ofNat, Nat.mod_eq_of_lt (by omega)]
  rw [Int.toNat_natCast]
  rw [Int.natCast_pow]
  rfl
theorem zI_and31 {k : Int} (hk : 0 ≤ k) : zI k &&& zI 31 = zI (k % 32) := by
  obtain ⟨j, rfl⟩ := Int.eq_ofNat_of_zero_le hk
  show Int32.ofInt (j : Int) &&& Int32.ofInt 31 = Int32.ofInt ((j % 32 : Nat) : Int)
  apply Int32.toBitVec_inj.1
  apply BitVec.eq_of_toNat_eq
  show ((BitVec.ofInt 32 (j : Int)) &&& 31#32).toNat = (BitVec.ofInt 32 ((j % 32 : Nat) : Int)).toNat
  rw [BitVec.toNat_and, BitVec.ofInt_natCast, BitVec.ofInt_natCast, BitVec.toNat_ofNat, BitVec.toNat_ofNat]
  show (j % 2 ^ 32) &&& 31 = (j % 32) % 2 ^ 32
  rw [Nat.mod_eq_of_lt (a := j % 32) (by omega)]
  refine (Nat.and_two_pow_sub_one_eq_mod (j % 2 ^ 32) 5).trans ?_
  omega
theorem zL_shl5 {k c : Int} (hk : 0 ≤ k) (hk' : k < 36028797018963968) (hc : 0 ≤ c) (hc' : c < 32) : (zL k <<< ((zI 5).toInt64 &&& 63)) ||| zL c = zL (k * 32 + c) := by
  obtain ⟨m, rfl⟩ := Int.eq_ofNat_of_zero_le hc
  obtain ⟨j, rfl⟩ := Int.eq_ofNat_of_zero_le hk
  apply Int64.toBitVec_inj.1
  apply BitVec.eq_of_toNat_eq
  have hs : ((zI 5).toInt64 &&& 63).toBitVec.smod 64 = 5#64 := by decide +kernel
  rw [Int64.toBitVec_or, Int64.toBitVec_shiftLeft, hs, BitVec.toNat_or]
  show ((BitVec.ofInt 64 (j : Int)) <<< 5#64).toNat ||| (BitVec.ofInt 64 (m : Int)).toNat = (BitVec.ofInt 64 ((j * 32 + m : Nat) : Int)).toNat
  rw [BitVec.shiftLeft_eq', BitVec.toNat_shiftLeft, BitVec.ofInt_natCast, BitVec.ofInt_natCast, BitVec.ofInt_natCast, BitVec.toNat_ofNat, BitVec.toNat_ofNat, BitVec.toNat_ofNat, BitVec.toNat_ofNat]
  show ((j % 2 ^ 64) <<< 5) % 2 ^ 64 ||| (m % 2 ^ 64) = (j * 32 + m) % 2 ^ 64
  rw [Nat.mod_eq_of_lt (a := j) (by omega), Nat.mod_eq_of_lt (a := m) (by omega), Nat.mod_eq_of_lt (a := j <<< 5) (by rw [Nat.shiftLeft_eq]; omega), Nat.mod_eq_of_lt (by omega), ← Nat.shiftLeft_add_eq_or_of_lt (by omega), Nat.shiftLeft_eq]
theorem zI_mod {a b : Int} : a - a / b * b = a % b := by rw [Int.emod_def, Int.mul_comm]
theorem zL_0 : zL 0 = 0 := rfl
theorem zL_sh5 {k : Int} (hk : 0 ≤ k) (hk' : k < 36028797018963968) : zL k <<< ((zI 5).toInt64 &&& 63) = zL (k * 32) := by
  have h := zL_shl5 (c := 0) hk hk' (by decide) (by decide)
  rw [Int.add_zero] at h
  rw [← h]
  apply Int64.toBitVec_inj.1
  rw [Int64.toBitVec_or]
  exact (BitVec.or_zero).symm
theorem zL_or5 {k c : Int} (hk : 0 ≤ k) (hk' : k < 36028797018963968) (hc : 0 ≤ c) (hc' : c < 32) : zL (k * 32) ||| zL c = zL (k * 32 + c) := by rw [← zL_sh5 hk hk', zL_shl5 hk hk' hc hc']
/-- comparisons of longs -/
theorem lz_ge {a b : Int} (ha : zr8 a) (hb : zr8 b) : (0 ≤ lg_cmp (zL a) (zL b)) = (b ≤ a) := by rw [← zL_le hb ha]; exact propext (lg_cmp_ge _ _)
theorem lz_le {a b : Int} (ha : zr8 a) (hb : zr8 b) : (lg_cmp (zL a) (zL b) ≤ 0) = (a ≤ b) := by rw [← zL_le ha hb]; exact propext (lg_cmp_le _ _)
theorem lz_gt {a b : Int} (ha : zr8 a) (hb : zr8 b) : (0 < lg_cmp (zL a) (zL b)) = (b < a) := by rw [← zL_lt hb ha]; exact propext (lg_cmp_gt _ _)
theorem lz_lt {a b : Int} (ha : zr8 a) (hb : zr8 b) : (lg_cmp (zL a) (zL b) < 0) = (a < b) := by rw [← zL_lt ha hb]; exact propext (lg_cmp_lt _ _)
theorem lz_eq {a b : Int} (ha : zr8 a) (hb : zr8 b) : (lg_cmp (zL a) (zL b) = 0) = (a = b) := by rw [← zL_inj ha hb]; exact propext (lg_cmp_eq _ _)
