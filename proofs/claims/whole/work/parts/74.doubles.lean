/-! ===== doubles: halves, doubles, parts of a number ===== -/
section DOUBLES
/-- a double of 53 digits -/
def zDV (g : UInt64) (c : Nat) (q : Int) : Prop := _root_.Jvm.FP.Core.val64 g = .fin false c q ∧ (2 ^ 52 ≤ c ∧ c < 2 ^ 53) ∧ -1074 ≤ q ∧ q ≤ 971
theorem zfits64 {c : Nat} {q : Int} (h : 2 ^ 52 ≤ c ∧ c < 2 ^ 53) (hq : -1074 ≤ q ∧ q ≤ 971) : _root_.Jvm.FP.Core.fits _root_.Jvm.FP.Core.b64 (_root_.Jvm.FP.Core.Datum.fin false c q) := ⟨h.2, hq.1, hq.2, Or.inr h.1⟩
theorem zv64_2 : _root_.Jvm.FP.Core.val64 4611686018427387904 = .fin false (2 ^ 52) (-51) := by decide +kernel
theorem zv64_1 : _root_.Jvm.FP.Core.val64 4607182418800017408 = .fin false (2 ^ 52) (-52) := by decide +kernel
theorem zv64_u23 : _root_.Jvm.FP.Core.val64 4710765210229538816 = .fin false (2 ^ 52) (-29) := by decide +kernel
theorem zv64_u52 : _root_.Jvm.FP.Core.val64 4841369599423283200 = .fin false (2 ^ 52) 0 := by decide +kernel
theorem zND_v {g : UInt64} (h : _root_.Jvm.FP.Core.val64 g ≠ .nan) : zND g := by
  have h1 := (_root_.Jvm.FP.Core.ne_nan g).mp h
  unfold zND
  rw [UInt64.le_iff_toNat_le, _root_.Jvm.FP.Core.mask_toNat]
  exact h1
theorem zDV_ne {g : UInt64} {c : Nat} {q : Int} (h : zDV g c q) : _root_.Jvm.FP.Core.val64 g ≠ .nan := by rw [h.1]; exact _root_.Jvm.FP.Core.Datum.noConfusion
theorem zDV_div {g : UInt64} {c : Nat} {q : Int} (h : zDV g c q) (hq : -1074 < q) : zDV (FP.ddiv g 4611686018427387904) c (q - 1) := by
  obtain ⟨h1, h2, h3, h4⟩ := h
  refine ⟨?_, h2, by omega, by omega⟩
  show _root_.Jvm.FP.Core.val64 (FP.Core.ddiv g 4611686018427387904) = _
  rw [_root_.Jvm.FP.Core.val64_ddiv, h1, zv64_2]
  show _root_.Jvm.FP.Core.roundRatio _root_.Jvm.FP.Core.b64 (false != false) c (2 ^ 52) (q - -51) = _
  refine _root_.Jvm.FP.Core.roundRatio_exact _root_.Jvm.FP.Core.good_b64 (by decide) (zfits64 h2 (show -1074 ≤ q - 1 ∧ q - 1 ≤ 971 by omega)) ?_
  rw [show (q - -51 - (q - 1)).toNat = 52 by omega, show (q - 1 - (q - -51)).toNat = 0 by omega, Nat.pow_zero, Nat.mul_one]
theorem zDV_mul {g : UInt64} {c : Nat} {q : Int} (h : zDV g c q) (hq : q < 971) : zDV (FP.dmul g 4611686018427387904) c (q + 1) := by
  obtain ⟨h1, h2, h3, h4⟩ := h
  refine ⟨?_, h2, by omega, by omega⟩
  show _root_.Jvm.FP.Core.val64 (FP.Core.dmul g 4611686018427387904) = _
  rw [_root_.Jvm.FP.Core.val64_dmul, h1, zv64_2]
  show _root_.Jvm.FP.Core.roundRatio _root_.Jvm.FP.Core.b64 (false != false) (c * 2 ^ 52) 1 (q + -51) = _
  refine _root_.Jvm.FP.Core.roundRatio_exact _root_.Jvm.FP.Core.good_b64 (by decide) (zfits64 h2 (show -1074 ≤ q + 1 ∧ q + 1 ≤ 971 by omega)) ?_
  rw [show (q + -51 - (q + 1)).toNat = 0 by omega, show (q + 1 - (q + -51)).toNat = 52 by omega, Nat.pow_zero, Nat.mul_one, Nat.mul_one]
theorem zDV_val {g : UInt64} {c : Nat} {q : Int} (h : zDV g c q) : _root_.Jvm.FP.Core.zval _root_.Jvm.FP.Core.b64 (_root_.Jvm.FP.Core.val64 g) = ((c * 2 ^ (q + 1074).toNat : Nat) : Int) := by
  rw [h.1]
  show _root_.Jvm.FP.Core.signed false (_root_.Jvm.FP.Core.inUnits c q _root_.Jvm.FP.Core.b64.qmin) = _
  rw [_root_.Jvm.FP.Core.qmin_b64]
  show ((c * 2 ^ (q - -1074).toNat : Nat) : Int) = _
  rw [show q - -1074 = q + 1074 by omega]
theorem zDV_2 {g : UInt64} {c : Nat} {q : Int} (h : zDV g c q) : (-51 ≤ q → ∃ o, FP.dcmp g 4611686018427387904 = some o ∧ o ≠ .lt) ∧ (q < -51 → FP.dcmp g 4611686018427387904 = some .lt) := by
  have hv := zDV_val h
  have hz : _root_.Jvm.FP.Core.zval _root_.Jvm.FP.Core.b64 (_root_.Jvm.FP.Core.val64 4611686018427387904) = ((2 ^ 1075 : Nat) : Int) := by decide +kernel
  have hc : FP.dcmp g 4611686018427387904 = some (compare (_root_.Jvm.FP.Core.zval _root_.Jvm.FP.Core.b64 (_root_.Jvm.FP.Core.val64 g)) (_root_.Jvm.FP.Core.zval _root_.Jvm.FP.Core.b64 (_root_.Jvm.FP.Core.val64 4611686018427387904))) := _root_.Jvm.FP.Core.dcmp_zval (zDV_ne h) (by rw [zv64_2]; exact _root_.Jvm.FP.Core.Datum.noConfusion)
  obtain ⟨h1, h2, h3, h4⟩ := h
  constructor
  · intro hq
    refine ⟨_, hc, fun e => ?_⟩
    rw [_root_.Jvm.FP.Core.compare_lt_iff, hv, hz] at e
    have : 2 ^ 1075 ≤ c * 2 ^ (q + 1074).toNat := by
      calc 2 ^ 1075 = 2 ^ 52 * 2 ^ 1023 := by rw [← Nat.pow_add]
        _ ≤ c * 2 ^ (q + 1074).toNat := Nat.mul_le_mul h2.1 (Nat.pow_le_pow_right (by decide) (by omega))
    omega
  · intro hq
    rw [hc]
    congr 1
    rw [_root_.Jvm.FP.Core.compare_lt_iff, hv, hz]
    have : c * 2 ^ (q + 1074).toNat < 2 ^ 1075 := by
      calc c * 2 ^ (q + 1074).toNat ≤ c * 2 ^ 1022 := Nat.mul_le_mul_left _ (Nat.pow_le_pow_right (by decide) (by omega))
        _ < 2 ^ 53 * 2 ^ 1022 := Nat.mul_lt_mul_of_pos_right h2.2 (Nat.two_pow_pos _)
        _ = 2 ^ 1075 := by rw [← Nat.pow_add]
    omega
theorem zDV_1 {g : UInt64} {c : Nat} {q : Int} (h : zDV g c q) : (-52 ≤ q → ∃ o, FP.dcmp g 4607182418800017408 = some o ∧ o ≠ .lt) ∧ (q < -52 → FP.dcmp g 4607182418800017408 = some .lt) := by
  have hv := zDV_val h
  have hz : _root_.Jvm.FP.Core.zval _root_.Jvm.FP.Core.b64 (_root_.Jvm.FP.Core.val64 4607182418800017408) = ((2 ^ 1074 : Nat) : Int) := by decide +kernel
  have hc : FP.dcmp g 4607182418800017408 = some (compare (_root_.Jvm.FP.Core.zval _root_.Jvm.FP.Core.b64 (_root_.Jvm.FP.Core.val64 g)) (_root_.Jvm.FP.Core.zval _root_.Jvm.FP.Core.b64 (_root_.Jvm.FP.Core.val64 4607182418800017408))) := _root_.Jvm.FP.Core.dcmp_zval (zDV_ne h) (by rw [zv64_1]; exact _root_.Jvm.FP.Core.Datum.noConfusion)
  obtain ⟨h1, h2, h3, h4⟩ := h
  constructor
  · intro hq
    refine ⟨_, hc, fun e => ?_⟩
    rw [_root_.Jvm.FP.Core.compare_lt_iff, hv, hz] at e
    have : 2 ^ 1074 ≤ c * 2 ^ (q + 1074).toNat := by
      calc 2 ^ 1074 = 2 ^ 52 * 2 ^ 1022 := by rw [← Nat.pow_add]
        _ ≤ c * 2 ^ (q + 1074).toNat := Nat.mul_le_mul h2.1 (Nat.pow_le_pow_right (by decide) (by omega))
    omega
  · intro hq
    rw [hc]
    congr 1
    rw [_root_.Jvm.FP.Core.compare_lt_iff, hv, hz]
    have : c * 2 ^ (q + 1074).toNat < 2 ^ 1074 := by
      calc c * 2 ^ (q + 1074).toNat ≤ c * 2 ^ 1021 := Nat.mul_le_mul_left _ (Nat.pow_le_pow_right (by decide) (by omega))
        _ < 2 ^ 53 * 2 ^ 1021 := Nat.mul_lt_mul_of_pos_right h2.2 (Nat.two_pow_pos _)
        _ = 2 ^ 1074 := by rw [← Nat.pow_add]
    omega
theorem zDV_0 {g : UInt64} {c : Nat} {q : Int} (h : zDV g c q) : ∃ o, FP.dcmp g 0 = some o ∧ o ≠ .eq := by
  have hv := zDV_val h
  have hc : FP.dcmp g 0 = some (compare (_root_.Jvm.FP.Core.zval _root_.Jvm.FP.Core.b64 (_root_.Jvm.FP.Core.val64 g)) (_root_.Jvm.FP.Core.zval _root_.Jvm.FP.Core.b64 (_root_.Jvm.FP.Core.val64 0))) := _root_.Jvm.FP.Core.dcmp_zval (zDV_ne h) (by rw [_root_.Jvm.FP.Core.val64_zero]; exact _root_.Jvm.FP.Core.Datum.noConfusion)
  refine ⟨_, hc, fun e => ?_⟩
  rw [_root_.Jvm.FP.Core.compare_eq_iff, hv, _root_.Jvm.FP.Core.zval64_zero] at e
  have : 0 < c * 2 ^ (q + 1074).toNat := Nat.mul_pos (by have := h.2.1.1; omega) (Nat.two_pow_pos _)
  omega
/-- 1 less than a number from 1 on below 2 -/
theorem zDV_subT {g : UInt64} {c T : Nat} (h : zDV g c (-52)) (hT : c = T + 2 ^ 52) : ∃ c' q', _root_.Jvm.FP.Core.val64 (FP.dsub g 4607182418800017408) = .fin false c' q' ∧ -1074 ≤ q' ∧ c' * 2 ^ (q' + 1074).toNat = T * 2 ^ 1022 := by
  obtain ⟨h1, h2, h3, h4⟩ := h
  have hTl : T < 2 ^ 53 := by omega
  have hs : _root_.Jvm.FP.Core.exactSum (.fin false c (-52)) (_root_.Jvm.FP.Core.negate (.fin false (2 ^ 52) (-52))) = .fin false T (-52) := by
    have e : _root_.Jvm.FP.Core.sumUnits false c (-52) true (2 ^ 52) (-52) (-52) = (T : Int) := by
      show ((c * 2 ^ ((-52 : Int) - (-52)).toNat : Nat) : Int) + -(((2 ^ 52) * 2 ^ ((-52 : Int) - (-52)).toNat : Nat) : Int) = _
      rw [show ((-52 : Int) - (-52)).toNat = 0 by decide, Nat.pow_zero, Nat.mul_one, Nat.mul_one]
      omega
    have e0 : _root_.Jvm.FP.Core.exactSum (.fin false c (-52)) (_root_.Jvm.FP.Core.negate (.fin false (2 ^ 52) (-52))) = _root_.Jvm.FP.Core.Datum.fin (_root_.Jvm.FP.Core.sumSign false true (_root_.Jvm.FP.Core.sumUnits false c (-52) true (2 ^ 52) (-52) (-52))) (_root_.Jvm.FP.Core.sumUnits false c (-52) true (2 ^ 52) (-52) (-52)).natAbs (-52) := by
      show _root_.Jvm.FP.Core.Datum.fin (_root_.Jvm.FP.Core.sumSign false true (_root_.Jvm.FP.Core.sumUnits false c (-52) true (2 ^ 52) (-52) (min (-52) (-52)))) (_root_.Jvm.FP.Core.sumUnits false c (-52) true (2 ^ 52) (-52) (min (-52) (-52))).natAbs (min (-52) (-52)) = _
      rw [show min (-52 : Int) (-52) = -52 by decide]
    have e2 : _root_.Jvm.FP.Core.sumSign false true (T : Int) = false := by
      unfold _root_.Jvm.FP.Core.sumSign
      split
      · rfl
      · exact decide_eq_false (by omega)
    rw [e0, e, e2, Int.natAbs_natCast]
  obtain ⟨c', q', r1, r2⟩ := _root_.Jvm.FP.Core.round_exact _root_.Jvm.FP.Core.good_b64 false (c := T) (q := -52) hTl (by decide) (by decide)
  have hv : _root_.Jvm.FP.Core.val64 (FP.dsub g 4607182418800017408) = .fin false c' q' := by
    show _root_.Jvm.FP.Core.val64 (FP.Core.dsub g 4607182418800017408) = _
    rw [_root_.Jvm.FP.Core.val64_dsub, h1, zv64_1, hs, r1]
  have hf := _root_.Jvm.FP.Core.val64_fits (FP.dsub g 4607182418800017408)
  rw [hv] at hf
  have hq' : -1074 ≤ q' := hf.2.1
  refine ⟨c', q', hv, hq', ?_⟩
  unfold _root_.Jvm.FP.Core.inUnits at r2
  rw [_root_.Jvm.FP.Core.qmin_b64, show q' - -1074 = q' + 1074 by omega, show ((-52 : Int) - -1074).toNat = 1022 by decide] at r2
  exact r2
/-- times 2 to the w: a whole number -/
theorem zDV_unit {h U : UInt64} {c T w : Nat} {q : Int} (hv : _root_.Jvm.FP.Core.val64 h = .fin false c q) (hq : -1074 ≤ q) (hU : _root_.Jvm.FP.Core.val64 U = .fin false (2 ^ 52) ((w : Int) - 52)) (hw : w ≤ 52) (e : c * 2 ^ (q + 1074).toNat = T * 2 ^ (1074 - w)) (hT : T < 9007199254740992) : zND (FP.dmul h U) ∧ FP.d2l (FP.dmul h U) = zL T := by
  have hi : (zL (T : Int)).toInt = T := zL_toI (by omega)
  have hl : _root_.Jvm.FP.Core.val64 (FP.l2d (zL T)) = _root_.Jvm.FP.Core.roundRatio _root_.Jvm.FP.Core.b64 false T 1 0 := by
    show _root_.Jvm.FP.Core.val64 (FP.Core.l2d (zL T)) = _
    rw [_root_.Jvm.FP.Core.val64_l2d, hi]
    show _root_.Jvm.FP.Core.roundRatio _root_.Jvm.FP.Core.b64 (decide ((T : Int) < 0)) (T : Int).natAbs 1 0 = _
    rw [decide_eq_false (by omega)]
    rfl
  have hm : _root_.Jvm.FP.Core.val64 (FP.dmul h U) = _root_.Jvm.FP.Core.roundRatio _root_.Jvm.FP.Core.b64 false T 1 0 := by
    show _root_.Jvm.FP.Core.val64 (FP.Core.dmul h U) = _
    rw [_root_.Jvm.FP.Core.val64_dmul, hv, hU]
    show _root_.Jvm.FP.Core.roundRatio _root_.Jvm.FP.Core.b64 (false != false) (c * 2 ^ 52) 1 (q + ((w : Int) - 52)) = _
    refine _root_.Jvm.FP.Core.roundRatio_congr (by decide) (by decide) ?_
    obtain ⟨p, hp⟩ := Int.eq_ofNat_of_zero_le (show 0 ≤ q + 1074 by omega)
    rw [show (q + 1074).toNat = p by omega] at e
    rw [Nat.mul_one, Nat.mul_one, show (q + ((w : Int) - 52) - 0).toNat = p - (1126 - w) by omega, show (0 - (q + ((w : Int) - 52))).toNat = (1126 - w) - p by omega]
    by_cases g : 1126 - w ≤ p
    · rw [show 1126 - w - p = 0 by omega, Nat.pow_zero, Nat.mul_one]
      refine Nat.eq_of_mul_eq_mul_right (Nat.two_pow_pos (1074 - w)) ?_
      rw [← e, Nat.mul_assoc, Nat.mul_assoc, ← Nat.pow_add, ← Nat.pow_add]
      congr 2
      omega
    · rw [show p - (1126 - w) = 0 by omega, Nat.pow_zero, Nat.mul_one]
      refine Nat.eq_of_mul_eq_mul_right (Nat.two_pow_pos p) ?_
      rw [Nat.mul_assoc, Nat.mul_comm (2 ^ 52), ← Nat.mul_assoc, e, Nat.mul_assoc, Nat.mul_assoc, ← Nat.pow_add, ← Nat.pow_add]
      congr 2
      omega
  have hne : _root_.Jvm.FP.Core.val64 (FP.dmul h U) ≠ .nan := by
    rw [hm]
    exact _root_.Jvm.FP.Core.roundRatio_ne_nan _ _ _ _ _
  have he : FP.dmul h U = FP.l2d (zL T) := _root_.Jvm.FP.Core.val64_inj hne (by rw [hm, hl])
  refine ⟨zND_v hne, ?_⟩
  rw [he]
  exact _root_.Jvm.FP.Core.d2l_l2d_small ⟨by rw [hi]; omega, by rw [hi]; omega⟩
end DOUBLES
