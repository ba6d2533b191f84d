/-! ===== the bits of a float ===== -/
section BITSOF
variable {d : Nat} {W : zW}
/-- no sign and finite -/
def zPF (x : UInt32) : Prop := x.toNat < 2139095040
theorem zv32_0 {x : UInt32} (h : x.toNat < 8388608) : _root_.Jvm.FP.Core.val32 x = .fin false x.toNat (-149) := by
  show _root_.Jvm.FP.Core.decode _root_.Jvm.FP.Core.b32 x.toNat = _
  unfold _root_.Jvm.FP.Core.decode
  have e1 : _root_.Jvm.FP.Core.fieldE _root_.Jvm.FP.Core.b32 x.toNat = 0 := by
    show x.toNat / 8388608 % 256 = 0
    omega
  have e2 : _root_.Jvm.FP.Core.fieldT _root_.Jvm.FP.Core.b32 x.toNat = x.toNat := by
    show x.toNat % 8388608 = _
    omega
  have e3 : _root_.Jvm.FP.Core.fieldS _root_.Jvm.FP.Core.b32 x.toNat = false := by
    show (x.toNat / 8388608 / 256 % 2 == 1) = false
    rw [show x.toNat / 8388608 / 256 % 2 = 0 by omega]
    rfl
  rw [e1, e2, e3, if_neg (by decide), if_pos rfl]
  rfl
theorem zv32_1 {x : UInt32} {E T : Nat} (h : x.toNat = E * 8388608 + T) (hT : T < 8388608) (hE : 1 ≤ E ∧ E < 255) : _root_.Jvm.FP.Core.val32 x = .fin false (8388608 + T) (-149 + ((E : Int) - 1)) := by
  show _root_.Jvm.FP.Core.decode _root_.Jvm.FP.Core.b32 x.toNat = _
  unfold _root_.Jvm.FP.Core.decode
  have e1 : _root_.Jvm.FP.Core.fieldE _root_.Jvm.FP.Core.b32 x.toNat = E := by
    show x.toNat / 8388608 % 256 = E
    omega
  have e2 : _root_.Jvm.FP.Core.fieldT _root_.Jvm.FP.Core.b32 x.toNat = T := by
    show x.toNat % 8388608 = _
    omega
  have e3 : _root_.Jvm.FP.Core.fieldS _root_.Jvm.FP.Core.b32 x.toNat = false := by
    show (x.toNat / 8388608 / 256 % 2 == 1) = false
    rw [show x.toNat / 8388608 / 256 % 2 = 0 by omega]
    rfl
  rw [e1, e2, e3, if_neg (show ¬ E = _root_.Jvm.FP.Core.b32.exps - 1 from (by show ¬ E = 256 - 1; omega)), if_neg (show ¬ E = 0 by omega)]
  rfl
theorem zv64_n {x : UInt64} {E T : Nat} (h : x.toNat = E * 4503599627370496 + T) (hT : T < 4503599627370496) (hE : 1 ≤ E ∧ E < 2047) : zDV x (4503599627370496 + T) (-1074 + ((E : Int) - 1)) := by
  refine ⟨?_, ⟨by omega, by omega⟩, by omega, by omega⟩
  show _root_.Jvm.FP.Core.decode _root_.Jvm.FP.Core.b64 x.toNat = _
  unfold _root_.Jvm.FP.Core.decode
  have e1 : _root_.Jvm.FP.Core.fieldE _root_.Jvm.FP.Core.b64 x.toNat = E := by
    show x.toNat / 4503599627370496 % 2048 = E
    omega
  have e2 : _root_.Jvm.FP.Core.fieldT _root_.Jvm.FP.Core.b64 x.toNat = T := by
    show x.toNat % 4503599627370496 = _
    omega
  have e3 : _root_.Jvm.FP.Core.fieldS _root_.Jvm.FP.Core.b64 x.toNat = false := by
    show (x.toNat / 4503599627370496 / 2048 % 2 == 1) = false
    rw [show x.toNat / 4503599627370496 / 2048 % 2 = 0 by omega]
    rfl
  rw [e1, e2, e3, if_neg (show ¬ E = _root_.Jvm.FP.Core.b64.exps - 1 from (by show ¬ E = 2048 - 1; omega)), if_neg (show ¬ E = 0 by omega)]
  rfl
theorem zPF_ne {x : UInt32} (h : zPF x) : _root_.Jvm.FP.Core.val32 x ≠ .nan := by
  unfold zPF at h
  rw [_root_.Jvm.FP.Core.ne_nan32]
  omega
theorem zPF_NN {x : UInt32} (h : zPF x) : zNN x := by
  unfold zPF at h
  unfold zNN
  rw [UInt32.le_iff_toNat_le, _root_.Jvm.FP.Core.mask_toNat32]
  show _ ≤ 2139095040
  omega
theorem zPF_f2d {x : UInt32} (h : zPF x) : _root_.Jvm.FP.Core.val64 (FP.f2d x) = _root_.Jvm.FP.Core.round _root_.Jvm.FP.Core.b64 (_root_.Jvm.FP.Core.val32 x) := by
  rw [_root_.Jvm.FP.f2d_core ((_root_.Jvm.FP.Core.notNaN_iff32 x).2 (zPF_ne h))]
  exact _root_.Jvm.FP.Core.val64_f2d x
theorem zlog {T : Nat} (h : 0 < T) (hT : T < 8388608) : ∃ j, 30 ≤ j ∧ j ≤ 52 ∧ 2 ^ 52 ≤ T * 2 ^ j ∧ T * 2 ^ j < 2 ^ 53 := by
  have h1 := Nat.log2_self_le (n := T) (by omega)
  have h2 : T < 2 ^ (T.log2 + 1) := Nat.lt_log2_self
  have h3 : T.log2 < 23 := by
    by_cases g : T.log2 < 23
    · exact g
    · have : 2 ^ 23 ≤ 2 ^ T.log2 := Nat.pow_le_pow_right (by decide) (by omega)
      omega
  refine ⟨52 - T.log2, by omega, by omega, ?_, ?_⟩
  · calc 2 ^ 52 = 2 ^ T.log2 * 2 ^ (52 - T.log2) := by rw [← Nat.pow_add]; congr 1; omega
      _ ≤ T * 2 ^ (52 - T.log2) := Nat.mul_le_mul_right _ h1
  · calc T * 2 ^ (52 - T.log2) < 2 ^ (T.log2 + 1) * 2 ^ (52 - T.log2) := Nat.mul_lt_mul_of_pos_right h2 (Nat.two_pow_pos _)
      _ = 2 ^ 53 := by rw [← Nat.pow_add]; congr 1; omega
theorem zmag32 {x : UInt32} {g : UInt64} (h : zPF x) (h0 : 0 < x.toNat) (hg : _root_.Jvm.FP.Core.val64 g = _root_.Jvm.FP.Core.round _root_.Jvm.FP.Core.b64 (_root_.Jvm.FP.Core.val32 x)) : zcall (d + 1) kX11_magnitudeBits [.double g, .int (zI 127), .int (zI 23)] W = some (some (.long (zL (x.toNat : Int))), W) := by
  unfold zPF at h
  by_cases hs : x.toNat < 8388608
  · obtain ⟨j, j1, j2, j3, j4⟩ := zlog h0 hs
    have hd : zDV g (x.toNat * 2 ^ j) (-149 - (j : Int)) := by
      refine ⟨?_, ⟨j3, j4⟩, by omega, by omega⟩
      rw [hg, zv32_0 hs]
      show _root_.Jvm.FP.Core.roundRatio _root_.Jvm.FP.Core.b64 false x.toNat 1 (-149) = _
      refine _root_.Jvm.FP.Core.roundRatio_exact _root_.Jvm.FP.Core.good_b64 (by decide) (zfits64 ⟨j3, j4⟩ ⟨by omega, by omega⟩) ?_
      rw [show ((-149 : Int) - (-149 - (j : Int))).toNat = j by omega, show (-149 - (j : Int) - -149).toNat = 0 by omega, Nat.pow_zero, Nat.mul_one, Nat.mul_one]
    have r := tX11_mag (d := d) (W := W) (bias := 127) (w := 23) (T := x.toNat) zWD_23 hd (by omega) (by omega) (Or.inr ⟨by omega, by omega, by
      rw [show -149 - (j : Int) + (((127 : Nat) : Int) - 1) + 1074 = ((1051 - j : Nat) : Int) by omega, Int.toNat_natCast, Nat.mul_assoc, ← Nat.pow_add]
      congr 2
      omega, by omega⟩)
    rw [if_neg (by omega)] at r
    exact r
  · obtain ⟨E, T, e1, e2, e3⟩ : ∃ E T : Nat, x.toNat = E * 8388608 + T ∧ T < 8388608 ∧ 1 ≤ E ∧ E < 255 := ⟨x.toNat / 8388608, x.toNat % 8388608, by omega, by omega, by omega, by omega⟩
    have hd : zDV g (T * 2 ^ (52 - 23) + 2 ^ 52) (-179 + (E : Int)) := by
      refine ⟨?_, ⟨by omega, by omega⟩, by omega, by omega⟩
      rw [hg, zv32_1 e1 e2 e3]
      show _root_.Jvm.FP.Core.roundRatio _root_.Jvm.FP.Core.b64 false (8388608 + T) 1 (-149 + ((E : Int) - 1)) = _
      refine _root_.Jvm.FP.Core.roundRatio_exact _root_.Jvm.FP.Core.good_b64 (by decide) (zfits64 ⟨by omega, by omega⟩ ⟨by omega, by omega⟩) ?_
      rw [show (-149 + ((E : Int) - 1) - (-179 + (E : Int))).toNat = 29 by omega, show (-179 + (E : Int) - (-149 + ((E : Int) - 1))).toNat = 0 by omega, Nat.pow_zero, Nat.mul_one, Nat.mul_one]
      omega
    have r := tX11_mag (d := d) (W := W) (bias := 127) (w := 23) (T := T) zWD_23 hd (by omega) (by omega) (Or.inl ⟨by omega, rfl, by omega, by
      rw [show ((127 : Nat) : Int) + (-179 + (E : Int) + 52) = (E : Int) by omega, Int.toNat_natCast]
      omega⟩)
    rw [if_pos (by omega), show ((127 : Nat) : Int) + (-179 + (E : Int) + 52) = (E : Int) by omega, Int.toNat_natCast, show E * 2 ^ 23 + T = x.toNat by omega] at r
    exact r
/-- a double of no sign, finite, 0 or at least the smallest normal one -/
theorem zmag64 {g : UInt64} (h : g = 0 ∨ (4503599627370496 ≤ g.toNat ∧ g.toNat < 9218868437227405312)) : zcall (d + 1) kX11_magnitudeBits [.double g, .int (zI 1023), .int (zI 52)] W = some (some (.long (zL (g.toNat : Int))), W) := by
  rcases h with h | h
  · rw [h]
    exact tX11_mag0
  · obtain ⟨E, T, e1, e2, e3⟩ : ∃ E T : Nat, g.toNat = E * 4503599627370496 + T ∧ T < 4503599627370496 ∧ 1 ≤ E ∧ E < 2047 := ⟨g.toNat / 4503599627370496, g.toNat % 4503599627370496, by omega, by omega, by omega, by omega⟩
    have r := tX11_mag (d := d) (W := W) (bias := 1023) (w := 52) (T := T) zWD_52 (zv64_n e1 e2 e3) (by omega) (by omega) (Or.inl ⟨by omega, by omega, by omega, by
      rw [show ((1023 : Nat) : Int) + (-1074 + ((E : Int) - 1) + 52) = (E : Int) by omega, Int.toNat_natCast]
      omega⟩)
    rw [if_pos (by omega), show ((1023 : Nat) : Int) + (-1074 + ((E : Int) - 1) + 52) = (E : Int) by omega, Int.toNat_natCast, show E * 2 ^ 52 + T = g.toNat by omega] at r
    exact r
theorem ztoI {x : UInt32} : x.toInt32 = zI (x.toNat : Int) := by
  apply Int32.toBitVec_inj.1
  show x.toBitVec = BitVec.ofInt 32 (x.toNat : Int)
  rw [BitVec.ofInt_natCast]
  apply BitVec.eq_of_toNat_eq
  rw [BitVec.toNat_ofNat]
  have := x.toNat_lt
  show x.toNat = x.toNat % 2 ^ 32
  omega
theorem ztoL {x : UInt64} : x.toInt64 = zL (x.toNat : Int) := by
  apply Int64.toBitVec_inj.1
  show x.toBitVec = BitVec.ofInt 64 (x.toNat : Int)
  rw [BitVec.ofInt_natCast]
  apply BitVec.eq_of_toNat_eq
  rw [BitVec.toNat_ofNat]
  have := x.toNat_lt
  show x.toNat = x.toNat % 2 ^ 64
  omega
theorem zfc_ge {x : UInt32} {k : CmpOp} (h : zPF x) : ((0 : Int32) ≤ cmpValue (FP.fcmp x FP.fconst0) k) = True := by
  have hc : FP.fcmp x FP.fconst0 = some (compare (_root_.Jvm.FP.Core.zval _root_.Jvm.FP.Core.b32 (_root_.Jvm.FP.Core.val32 x)) (_root_.Jvm.FP.Core.zval _root_.Jvm.FP.Core.b32 (_root_.Jvm.FP.Core.val32 0))) := _root_.Jvm.FP.Core.fcmp_zval (zPF_ne h) (show _root_.Jvm.FP.Core.val32 0 ≠ .nan by rw [_root_.Jvm.FP.Core.val32_zero]; exact _root_.Jvm.FP.Core.Datum.noConfusion)
  rw [hc, _root_.Jvm.FP.Core.zval32_zero]
  refine zcv_ge' ⟨_, rfl, fun e => ?_⟩
  rw [_root_.Jvm.FP.Core.compare_lt_iff] at e
  have := _root_.Jvm.FP.Core.zval_nonneg32 (zPF_ne h) (by unfold zPF at h; omega)
  omega
theorem tX11_bitsOf {x : UInt32} (h : zPF x) : zcall (d + 2) kX11_bitsOf [.float x] W = some (some (.int x.toInt32), W) := by
  have hg := zPF_f2d h
  rw [qX11_bitsOf (L := [some (.float x)]) rfl]
  rw [zruns_N 400]
  simp (disch := first | assumption | omega | decide | ((simp (disch := omega) only [zup_ne, zup_eq]); first | assumption | omega)) only [sX11_bitsOf_0, sX11_bitsOf_1, sX11_bitsOf_2, sX11_bitsOf_3, zkp_i, zkp_a, zkp_f, zkp_l, zkp_d, zkp_n, ycl_eq, zI_add, zI_sub, zI_mul, zI_neg, zI_inj, zI_lt, zI_le, zI_eq0, zI_lt0, zI_gt0, zI_le0, zI_ge0, yil_ok, yll_ok, yfl_ok, yis_ok, yls_ok, yfs_ok, y0_s, y1_s, ybo_ok, zset_w, zruns_if, zui_eq, zus_eq, zup_eq, Int.reduceAdd, Int.reduceSub, Int.reduceMul, Int.reduceNeg, Int.reduceLT, Int.reduceLE, Int.reduceEq, if_true, if_false, not_true_eq_false, not_false_eq_true, zw_0, zp_0_2, zw_1, zw_2, zp_2_5, zw_3, zp_3, zw_4, zp_4, zw_5, zp_5, zw_6, zp_6, zw_7, zp_7, zw_8, zw_9, zp_9_5, zw_10, zp_10, zw_11, zp_11, zw_12, zp_12, zw_13, zp_13, zw_14, zp_14, zw_15, zp_15_5, zw_16, zp_16, zw_17, zp_17, zw_18, zp_18, zw_19, zp_19, zw_20, zp_20, zw_65, zw_66, zp_66_5, zw_67, zp_67, zw_68, zp_68, zw_69, zp_69, zw_70, zp_70, zw_71, zp_71, zw_72, zw_73, zp_73_5, zw_74, zp_74, zw_75, zp_75, zw_76, zp_76, zw_77, zp_77, zw_78, zp_78, zw_79, zp_79_5, zw_80, zp_80, zw_81, zp_81, zw_82, zp_82, zw_83, zp_83, zw_84, zp_84, zw_129, zp_129_1, zw_130, zp_130, zw_131, zp_131_1, zw_132, zp_132, zw_133, zp_133_5, zp_133_6, zp_133_7, zw_134, zp_134, zw_135, zp_135, zw_136, zp_136, zw_137, zw_138, zp_138_1, zw_139, zp_139, zw_140, zp_140_1, zw_141, zp_141, zw_142, zp_142, zw_143, zw_144, zp_144_1, zw_145, zp_145, zw_146, zp_146_4, zw_147, zp_147, zw_148, zp_148, zw_149, zp_149, zw_150, zp_150, zw_151, zw_152, zp_152, zw_153, zp_153_1, zp_153_2, zp_153_3, zw_154, zp_154, zw_155, zp_155_1, zp_155_2, zp_155_3, zw_156, zp_156, zw_157, zp_157_1, zp_157_2, zp_157_3, zw_158, zp_158, zw_159, zp_159_1, zp_159_2, zp_159_3, zw_160, zp_160, zw_161, zp_161_1, zp_161_2, zp_161_3, zw_162, zp_162, zw_163, zp_163_1, zp_163_2, zp_163_3, zw_164, zp_164, yg0_0, yg0_1, yg0_2, yg0_3, yg0_4, yg1_0, yg1_1, yg1_2, yg1_3, yg2_0, yg2_1, yg2_2, yg3_0, yg3_1, yg4_0, yg5_0, yg5_1, yg5_2, yg5_3, yg5_4, yg5_5, yg6_0, yg6_1, yg6_2, yg6_3, yg6_4, yg6_5, yg7_0, yg7_1, yg7_2, yg7_3, yg7_4, yg7_5, yg7_6, yg7_7, yg8_0, yg8_1, yg8_2, yg8_3, yg9_0, yg9_1, yg9_2, yg9_3, yg9_4, yg9_5, yg10_0, yg10_1, yg11_0, yg11_1, yg11_2, yg11_3, yg11_4, yg11_5, yg11_6, yg11_7, yg11_8, yg11_9, yg11_10, yp0_0, yp0_1, yp0_2, yp0_3, yp0_4, yp1_0, yp1_1, yp1_2, yp1_3, yp2_0, yp2_1, yp2_2, yp3_0, yp3_1, yp4_0, yp5_0, yp5_1, yp5_2, yp5_3, yp5_4, yp5_5, yp6_0, yp6_1, yp6_2, yp6_3, yp6_4, yp6_5, yp7_0, yp7_1, yp7_2, yp7_3, yp7_4, yp7_5, yp7_6, yp7_7, yp8_0, yp8_1, yp8_2, yp8_3, yp9_0, yp9_1, yp9_2, yp9_3, yp9_4, yp9_5, yp10_0, yp10_1, yp11_0, yp11_1, yp11_2, yp11_3, yp11_4, yp11_5, yp11_6, yp11_7, yp11_8, yp11_9, yp11_10, zfc_ge h]
  have hn : zND (FP.f2d x) := zND_v (by
    rw [hg]
    have hv := zPF_ne h
    generalize _root_.Jvm.FP.Core.val32 x = v at hv
    cases v with
    | nan => exact absurd rfl hv
    | inf s => exact _root_.Jvm.FP.Core.Datum.noConfusion
    | fin s c q => exact _root_.Jvm.FP.Core.roundRatio_ne_nan _ _ _ _ _)
  have hm : zcall (d + 1) kX11_magnitudeBits [.double (FP.f2d x), .int (zI 127), .int (zI 23)] W = some (some (.long (zL (x.toNat : Int))), W) := by
    by_cases h0 : 0 < x.toNat
    · exact zmag32 h h0 hg
    · have e0 : x = 0 := by
        apply UInt32.toNat_inj.1
        rw [UInt32.toNat_zero]
        omega
      rw [e0, show FP.f2d 0 = 0 by decide +kernel]
      exact tX11_mag0
  rw [zruns_N 400]
  simp (disch := first | assumption | omega | decide | ((simp (disch := omega) only [zup_ne, zup_eq]); first | assumption | omega)) only [sX11_bitsOf_23, sX11_bitsOf_24, sX11_bitsOf_25, sX11_bitsOf_27, sX11_bitsOf_29, sX11_bitsOf_32, sX11_bitsOf_33, zkp_i, zkp_a, zkp_f, zkp_l, zkp_d, zkp_n, ycl_eq, zI_add, zI_sub, zI_mul, zI_neg, zI_inj, zI_lt, zI_le, zI_eq0, zI_lt0, zI_gt0, zI_le0, zI_ge0, yil_ok, yll_ok, yfl_ok, yis_ok, yls_ok, yfs_ok, y0_s, y1_s, ybo_ok, zset_w, zruns_if, zui_eq, zus_eq, zup_eq, Int.reduceAdd, Int.reduceSub, Int.reduceMul, Int.reduceNeg, Int.reduceLT, Int.reduceLE, Int.reduceEq, if_true, if_false, not_true_eq_false, not_false_eq_true, zw_0, zp_0_2, zw_1, zw_2, zp_2_5, zw_3, zp_3, zw_4, zp_4, zw_5, zp_5, zw_6, zp_6, zw_7, zp_7, zw_8, zw_9, zp_9_5, zw_10, zp_10, zw_11, zp_11, zw_12, zp_12, zw_13, zp_13, zw_14, zp_14, zw_15, zp_15_5, zw_16, zp_16, zw_17, zp_17, zw_18, zp_18, zw_19, zp_19, zw_20, zp_20, zw_65, zw_66, zp_66_5, zw_67, zp_67, zw_68, zp_68, zw_69, zp_69, zw_70, zp_70, zw_71, zp_71, zw_72, zw_73, zp_73_5, zw_74, zp_74, zw_75, zp_75, zw_76, zp_76, zw_77, zp_77, zw_78, zp_78, zw_79, zp_79_5, zw_80, zp_80, zw_81, zp_81, zw_82, zp_82, zw_83, zp_83, zw_84, zp_84, zw_129, zp_129_1, zw_130, zp_130, zw_131, zp_131_1, zw_132, zp_132, zw_133, zp_133_5, zp_133_6, zp_133_7, zw_134, zp_134, zw_135, zp_135, zw_136, zp_136, zw_137, zw_138, zp_138_1, zw_139, zp_139, zw_140, zp_140_1, zw_141, zp_141, zw_142, zp_142, zw_143, zw_144, zp_144_1, zw_145, zp_145, zw_146, zp_146_4, zw_147, zp_147, zw_148, zp_148, zw_149, zp_149, zw_150, zp_150, zw_151, zw_152, zp_152, zw_153, zp_153_1, zp_153_2, zp_153_3, zw_154, zp_154, zw_155, zp_155_1, zp_155_2, zp_155_3, zw_156, zp_156, zw_157, zp_157_1, zp_157_2, zp_157_3, zw_158, zp_158, zw_159, zp_159_1, zp_159_2, zp_159_3, zw_160, zp_160, zw_161, zp_161_1, zp_161_2, zp_161_3, zw_162, zp_162, zw_163, zp_163_1, zp_163_2, zp_163_3, zw_164, zp_164, yg0_0, yg0_1, yg0_2, yg0_3, yg0_4, yg1_0, yg1_1, yg1_2, yg1_3, yg2_0, yg2_1, yg2_2, yg3_0, yg3_1, yg4_0, yg5_0, yg5_1, yg5_2, yg5_3, yg5_4, yg5_5, yg6_0, yg6_1, yg6_2, yg6_3, yg6_4, yg6_5, yg7_0, yg7_1, yg7_2, yg7_3, yg7_4, yg7_5, yg7_6, yg7_7, yg8_0, yg8_1, yg8_2, yg8_3, yg9_0, yg9_1, yg9_2, yg9_3, yg9_4, yg9_5, yg10_0, yg10_1, yg11_0, yg11_1, yg11_2, yg11_3, yg11_4, yg11_5, yg11_6, yg11_7, yg11_8, yg11_9, yg11_10, yp0_0, yp0_1, yp0_2, yp0_3, yp0_4, yp1_0, yp1_1, yp1_2, yp1_3, yp2_0, yp2_1, yp2_2, yp3_0, yp3_1, yp4_0, yp5_0, yp5_1, yp5_2, yp5_3, yp5_4, yp5_5, yp6_0, yp6_1, yp6_2, yp6_3, yp6_4, yp6_5, yp7_0, yp7_1, yp7_2, yp7_3, yp7_4, yp7_5, yp7_6, yp7_7, yp8_0, yp8_1, yp8_2, yp8_3, yp9_0, yp9_1, yp9_2, yp9_3, yp9_4, yp9_5, yp10_0, yp10_1, yp11_0, yp11_1, yp11_2, yp11_3, yp11_4, yp11_5, yp11_6, yp11_7, yp11_8, yp11_9, yp11_10, zkd_ok hn, hm]
  rw [ztoI, zL_l2i ⟨by omega, by unfold zPF at h; omega⟩]
theorem zcv_eq {o : Option Ordering} {k : CmpOp} (h : o = some .eq) : (cmpValue o k = 0) = True := by
  rw [h]
  apply eq_true
  cases k <;> decide
/-- a float that is a number -/
def zNF (x : UInt32) : Prop := _root_.Jvm.FP.Core.val32 x ≠ .nan
theorem zPF_NF {x : UInt32} (h : zPF x) : zNF x := zPF_ne h
theorem zNF_NN {x : UInt32} (h : zNF x) : zNN x := by
  have h1 := (_root_.Jvm.FP.Core.ne_nan32 x).mp h
  unfold zNN
  rw [UInt32.le_iff_toNat_le, _root_.Jvm.FP.Core.mask_toNat32]
  exact h1
theorem tJ_isNaN {x : UInt32} (h : zNF x) : zcall (d + 1) kJxf58ca_isNaN_12338 [.float x] W = some (some (.int (zI 0)), W) := by
  have h1 := zcv_eq (k := .l) (show FP.fcmp x x = some .eq from _root_.Jvm.FP.Core.fcmp_refl ((_root_.Jvm.FP.Core.notNaN_iff32 x).2 h))
  rw [qJxf58ca_isNaN_12338 (L := [some (.float x)]) rfl]
  rw [zruns_N 400]
  simp (disch := first | assumption | omega | decide | ((simp (disch := omega) only [zup_ne, zup_eq]); first | assumption | omega)) only [sJxf58ca_isNaN_12338_0, sJxf58ca_isNaN_12338_1, sJxf58ca_isNaN_12338_2, sJxf58ca_isNaN_12338_3, zkp_i, zkp_a, zkp_f, zkp_l, zkp_d, zkp_n, ycl_eq, zI_add, zI_sub, zI_mul, zI_neg, zI_inj, zI_lt, zI_le, zI_eq0, zI_lt0, zI_gt0, zI_le0, zI_ge0, yil_ok, yll_ok, yfl_ok, yis_ok, yls_ok, yfs_ok, y0_s, y1_s, ybo_ok, zset_w, zruns_if, zui_eq, zus_eq, zup_eq, Int.reduceAdd, Int.reduceSub, Int.reduceMul, Int.reduceNeg, Int.reduceLT, Int.reduceLE, Int.reduceEq, if_true, if_false, not_true_eq_false, not_false_eq_true, h1]
  rw [zruns_N 400]
  simp (disch := first | assumption | omega | decide | ((simp (disch := omega) only [zup_ne, zup_eq]); first | assumption | omega)) only [sJxf58ca_isNaN_12338_10, sJxf58ca_isNaN_12338_11, zkp_i, zkp_a, zkp_f, zkp_l, zkp_d, zkp_n, ycl_eq, zI_add, zI_sub, zI_mul, zI_neg, zI_inj, zI_lt, zI_le, zI_eq0, zI_lt0, zI_gt0, zI_le0, zI_ge0, yil_ok, yll_ok, yfl_ok, yis_ok, yls_ok, yfs_ok, y0_s, y1_s, ybo_ok, zset_w, zruns_if, zui_eq, zus_eq, zup_eq, Int.reduceAdd, Int.reduceSub, Int.reduceMul, Int.reduceNeg, Int.reduceLT, Int.reduceLE, Int.reduceEq, if_true, if_false, not_true_eq_false, not_false_eq_true]
theorem tJ_fbits {x : UInt32} (h : zNF x) : zcall (d + 2) kJxf58ca_floatToIntBits_5c35a [.float x] W = some (some (.int x.toInt32), W) := by
  rw [qJxf58ca_floatToIntBits_5c35a (L := [some (.float x)]) rfl]
  have h1 := tJ_isNaN (d := d) (W := W) h
  rw [zruns_N 400]
  simp (disch := first | assumption | omega | decide | ((simp (disch := omega) only [zup_ne, zup_eq]); first | assumption | omega)) only [sJxf58ca_floatToIntBits_5c35a_0, sJxf58ca_floatToIntBits_5c35a_1, sJxf58ca_floatToIntBits_5c35a_4, zkp_i, zkp_a, zkp_f, zkp_l, zkp_d, zkp_n, ycl_eq, zI_add, zI_sub, zI_mul, zI_neg, zI_inj, zI_lt, zI_le, zI_eq0, zI_lt0, zI_gt0, zI_le0, zI_ge0, yil_ok, yll_ok, yfl_ok, yis_ok, yls_ok, yfs_ok, y0_s, y1_s, ybo_ok, zset_w, zruns_if, zui_eq, zus_eq, zup_eq, Int.reduceAdd, Int.reduceSub, Int.reduceMul, Int.reduceNeg, Int.reduceLT, Int.reduceLE, Int.reduceEq, if_true, if_false, not_true_eq_false, not_false_eq_true, h1]
  rw [zruns_N 400]
  simp (disch := first | assumption | omega | decide | ((simp (disch := omega) only [zup_ne, zup_eq]); first | assumption | omega)) only [sJxf58ca_floatToIntBits_5c35a_7, sJxf58ca_floatToIntBits_5c35a_8, sJxf58ca_floatToIntBits_5c35a_11, zkp_i, zkp_a, zkp_f, zkp_l, zkp_d, zkp_n, ycl_eq, zI_add, zI_sub, zI_mul, zI_neg, zI_inj, zI_lt, zI_le, zI_eq0, zI_lt0, zI_gt0, zI_le0, zI_ge0, yil_ok, yll_ok, yfl_ok, yis_ok, yls_ok, yfs_ok, y0_s, y1_s, ybo_ok, zset_w, zruns_if, zui_eq, zus_eq, zup_eq, Int.reduceAdd, Int.reduceSub, Int.reduceMul, Int.reduceNeg, Int.reduceLT, Int.reduceLE, Int.reduceEq, if_true, if_false, not_true_eq_false, not_false_eq_true]
theorem tJ_isNaN8 {x : UInt64} (h : _root_.Jvm.FP.Core.val64 x ≠ .nan) : zcall (d + 1) kJxe99ae_isNaN_b9ae7 [.double x] W = some (some (.int (zI 0)), W) := by
  have h1 := zcv_eq (k := .l) (show FP.dcmp x x = some .eq from _root_.Jvm.FP.Core.dcmp_refl ((_root_.Jvm.FP.Core.notNaN_iff x).2 h))
  rw [qJxe99ae_isNaN_b9ae7 (L := [some (.double x), none]) rfl]
  rw [zruns_N 400]
  simp (disch := first | assumption | omega | decide | ((simp (disch := omega) only [zup_ne, zup_eq]); first | assumption | omega)) only [sJxe99ae_isNaN_b9ae7_0, sJxe99ae_isNaN_b9ae7_1, sJxe99ae_isNaN_b9ae7_2, sJxe99ae_isNaN_b9ae7_3, zkp_i, zkp_a, zkp_f, zkp_l, zkp_d, zkp_n, ycl_eq, zI_add, zI_sub, zI_mul, zI_neg, zI_inj, zI_lt, zI_le, zI_eq0, zI_lt0, zI_gt0, zI_le0, zI_ge0, yil_ok, yll_ok, yfl_ok, yis_ok, yls_ok, yfs_ok, y0_s, y1_s, ybo_ok, zset_w, zruns_if, zui_eq, zus_eq, zup_eq, Int.reduceAdd, Int.reduceSub, Int.reduceMul, Int.reduceNeg, Int.reduceLT, Int.reduceLE, Int.reduceEq, if_true, if_false, not_true_eq_false, not_false_eq_true, h1]
  rw [zruns_N 400]
  simp (disch := first | assumption | omega | decide | ((simp (disch := omega) only [zup_ne, zup_eq]); first | assumption | omega)) only [sJxe99ae_isNaN_b9ae7_10, sJxe99ae_isNaN_b9ae7_11, zkp_i, zkp_a, zkp_f, zkp_l, zkp_d, zkp_n, ycl_eq, zI_add, zI_sub, zI_mul, zI_neg, zI_inj, zI_lt, zI_le, zI_eq0, zI_lt0, zI_gt0, zI_le0, zI_ge0, yil_ok, yll_ok, yfl_ok, yis_ok, yls_ok, yfs_ok, y0_s, y1_s, ybo_ok, zset_w, zruns_if, zui_eq, zus_eq, zup_eq, Int.reduceAdd, Int.reduceSub, Int.reduceMul, Int.reduceNeg, Int.reduceLT, Int.reduceLE, Int.reduceEq, if_true, if_false, not_true_eq_false, not_false_eq_true]
theorem tJ_dbits {x : UInt64} (h : _root_.Jvm.FP.Core.val64 x ≠ .nan) : zcall (d + 2) kJxe99ae_doubleToLongBits_ccdee [.double x] W = some (some (.long x.toInt64), W) := by
  rw [qJxe99ae_doubleToLongBits_ccdee (L := [some (.double x), none]) rfl]
  have h1 := tJ_isNaN8 (d := d) (W := W) h
  rw [zruns_N 400]
  simp (disch := first | assumption | omega | decide | ((simp (disch := omega) only [zup_ne, zup_eq]); first | assumption | omega)) only [sJxe99ae_doubleToLongBits_ccdee_0, sJxe99ae_doubleToLongBits_ccdee_1, sJxe99ae_doubleToLongBits_ccdee_4, zkp_i, zkp_a, zkp_f, zkp_l, zkp_d, zkp_n, ycl_eq, zI_add, zI_sub, zI_mul, zI_neg, zI_inj, zI_lt, zI_le, zI_eq0, zI_lt0, zI_gt0, zI_le0, zI_ge0, yil_ok, yll_ok, yfl_ok, yis_ok, yls_ok, yfs_ok, y0_s, y1_s, ybo_ok, zset_w, zruns_if, zui_eq, zus_eq, zup_eq, Int.reduceAdd, Int.reduceSub, Int.reduceMul, Int.reduceNeg, Int.reduceLT, Int.reduceLE, Int.reduceEq, if_true, if_false, not_true_eq_false, not_false_eq_true, h1]
  rw [zruns_N 400]
  simp (disch := first | assumption | omega | decide | ((simp (disch := omega) only [zup_ne, zup_eq]); first | assumption | omega)) only [sJxe99ae_doubleToLongBits_ccdee_7, sJxe99ae_doubleToLongBits_ccdee_8, sJxe99ae_doubleToLongBits_ccdee_11, zkp_i, zkp_a, zkp_f, zkp_l, zkp_d, zkp_n, ycl_eq, zI_add, zI_sub, zI_mul, zI_neg, zI_inj, zI_lt, zI_le, zI_eq0, zI_lt0, zI_gt0, zI_le0, zI_ge0, yil_ok, yll_ok, yfl_ok, yis_ok, yls_ok, yfs_ok, y0_s, y1_s, ybo_ok, zset_w, zruns_if, zui_eq, zus_eq, zup_eq, Int.reduceAdd, Int.reduceSub, Int.reduceMul, Int.reduceNeg, Int.reduceLT, Int.reduceLE, Int.reduceEq, if_true, if_false, not_true_eq_false, not_false_eq_true]
end BITSOF
