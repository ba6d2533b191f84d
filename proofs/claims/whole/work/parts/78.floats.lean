/-! ===== floats without a sign: their values in units, sums, products, quotients ===== -/
section FLOATS
def zVal (x : UInt32) : Nat := _root_.Jvm.FP.Core.zmag _root_.Jvm.FP.Core.b32 (_root_.Jvm.FP.Core.val32 x)
theorem zPF_sgn {x : UInt32} (h : zPF x) : _root_.Jvm.FP.Core.sgn (_root_.Jvm.FP.Core.val32 x) = false := by
  rw [_root_.Jvm.FP.Core.sgn_bits32 (zPF_ne h)]
  unfold zPF at h
  exact decide_eq_false (by omega)
theorem zPF_fin {x : UInt32} (h : zPF x) : ∃ c q, _root_.Jvm.FP.Core.val32 x = .fin false c q ∧ -149 ≤ q ∧ zVal x = c * 2 ^ (q + 149).toNat := by
  have hf : _root_.Jvm.FP.Core.FFin x := by
    rw [_root_.Jvm.FP.Core.fin_bits32]
    unfold zPF at h
    omega
  obtain ⟨s, c, q, e⟩ := hf
  have hs := zPF_sgn h
  rw [e] at hs
  have hs : s = false := hs
  subst hs
  have hfit := _root_.Jvm.FP.Core.val32_fits x
  rw [e] at hfit
  have hq : -149 ≤ q := hfit.2.1
  refine ⟨c, q, e, hq, ?_⟩
  unfold zVal
  rw [e]
  show _root_.Jvm.FP.Core.inUnits c q _root_.Jvm.FP.Core.b32.qmin = _
  unfold _root_.Jvm.FP.Core.inUnits
  rw [_root_.Jvm.FP.Core.qmin_b32, show q - -149 = q + 149 by omega]
theorem zPF_zval {x : UInt32} (h : zPF x) : _root_.Jvm.FP.Core.zval _root_.Jvm.FP.Core.b32 (_root_.Jvm.FP.Core.val32 x) = (zVal x : Int) := by
  unfold _root_.Jvm.FP.Core.zval
  rw [zPF_sgn h]
  rfl
theorem zPF_cmp {x y : UInt32} (hx : zPF x) (hy : zPF y) : FP.fcmp x y = some (compare (zVal x : Int) (zVal y : Int)) := by
  have := _root_.Jvm.FP.Core.fcmp_zval (zPF_ne hx) (zPF_ne hy)
  rw [zPF_zval hx, zPF_zval hy] at this
  exact this
theorem zPF_lt {x y : UInt32} (hx : zPF x) (hy : zPF y) : zVal x < zVal y ↔ x.toNat < y.toNat := by
  have h1 := (_root_.Jvm.FP.Core.mono_bits32 (zPF_ne hx) (zPF_ne hy) (by unfold zPF at hx; omega) (by unfold zPF at hy; omega)).1
  rw [← h1, show _root_.Jvm.FP.Core.fcmp x y = some (compare (zVal x : Int) (zVal y : Int)) from zPF_cmp hx hy]
  constructor
  · intro h
    congr 1
    rw [_root_.Jvm.FP.Core.compare_lt_iff]
    omega
  · intro h
    injection h with h
    rw [_root_.Jvm.FP.Core.compare_lt_iff] at h
    omega
/-- a rounded number below a float -/
theorem zrr {r V : UInt32} {A B : Nat} {e e0 : Int} (h : _root_.Jvm.FP.Core.val32 r = _root_.Jvm.FP.Core.roundRatio _root_.Jvm.FP.Core.b32 false A B e) (hB : 0 < B) (hV : zPF V) (h0 : e0 ≤ -149) (h1 : e0 ≤ e) (hu : _root_.Jvm.FP.Core.inUnits A e e0 ≤ zVal V * 2 ^ (-149 - e0).toNat * B) : zPF r ∧ zVal r ≤ zVal V := by
  have hn : _root_.Jvm.FP.Core.val32 r ≠ .nan := by
    rw [h]
    exact _root_.Jvm.FP.Core.roundRatio_ne_nan _ _ _ _ _
  have hm : _root_.Jvm.FP.Core.zmag _root_.Jvm.FP.Core.b32 (_root_.Jvm.FP.Core.val32 r) ≤ _root_.Jvm.FP.Core.zmag _root_.Jvm.FP.Core.b32 (_root_.Jvm.FP.Core.val32 V) := by
    rw [h]
    exact _root_.Jvm.FP.Core.zmag_roundRatio_le _root_.Jvm.FP.Core.good_b32 hB (_root_.Jvm.FP.Core.val32_fits V) (zPF_ne hV) (by rw [_root_.Jvm.FP.Core.qmin_b32]; exact h0) h1 (by rw [_root_.Jvm.FP.Core.qmin_b32]; exact hu)
  have hs : _root_.Jvm.FP.Core.sgn (_root_.Jvm.FP.Core.val32 r) = false := by rw [h, _root_.Jvm.FP.Core.sgn_roundRatio]
  have hr : r.toNat < 2147483648 := by
    rw [_root_.Jvm.FP.Core.sgn_bits32 hn] at hs
    have := of_decide_eq_false hs
    omega
  have hle : r.toNat ≤ V.toNat := by
    refine Nat.le_of_not_lt (fun hlt => ?_)
    have h2 := (_root_.Jvm.FP.Core.mono_bits32 (zPF_ne hV) hn (by unfold zPF at hV; omega) (by omega)).1.2 hlt
    have h3 : _root_.Jvm.FP.Core.fcmp V r = some (compare (_root_.Jvm.FP.Core.zval _root_.Jvm.FP.Core.b32 (_root_.Jvm.FP.Core.val32 V)) (_root_.Jvm.FP.Core.zval _root_.Jvm.FP.Core.b32 (_root_.Jvm.FP.Core.val32 r))) := _root_.Jvm.FP.Core.fcmp_zval (zPF_ne hV) hn
    rw [h3] at h2
    injection h2 with h2
    rw [_root_.Jvm.FP.Core.compare_lt_iff, zPF_zval hV] at h2
    unfold _root_.Jvm.FP.Core.zval at h2
    rw [hs] at h2
    have h2 : (zVal V : Int) < ((_root_.Jvm.FP.Core.zmag _root_.Jvm.FP.Core.b32 (_root_.Jvm.FP.Core.val32 r) : Nat) : Int) := h2
    unfold zVal at h2
    omega
  refine ⟨?_, hm⟩
  unfold zPF at *
  omega
theorem zadd_V {x y V : UInt32} (hx : zPF x) (hy : zPF y) (hV : zPF V) (h : zVal x + zVal y ≤ zVal V) : zPF (FP.fadd x y) ∧ zVal (FP.fadd x y) ≤ zVal V := by
  obtain ⟨c, q, e1, q1, v1⟩ := zPF_fin hx
  obtain ⟨d, r, e2, q2, v2⟩ := zPF_fin hy
  have hm : -149 ≤ min q r := by omega
  have hmq : min q r ≤ q := by omega
  have hmr : min q r ≤ r := by omega
  generalize hmm : min q r = m at hm hmq hmr
  have hu : _root_.Jvm.FP.Core.sumUnits false c q false d r m = ((c * 2 ^ (q - m).toNat + d * 2 ^ (r - m).toNat : Nat) : Int) := rfl
  have hr : _root_.Jvm.FP.Core.val32 (FP.fadd x y) = _root_.Jvm.FP.Core.roundRatio _root_.Jvm.FP.Core.b32 false (c * 2 ^ (q - m).toNat + d * 2 ^ (r - m).toNat) 1 m := by
    show _root_.Jvm.FP.Core.val32 (FP.Core.fadd x y) = _
    rw [_root_.Jvm.FP.Core.val32_fadd, e1, e2]
    show _root_.Jvm.FP.Core.round _root_.Jvm.FP.Core.b32 (.fin (_root_.Jvm.FP.Core.sumSign false false (_root_.Jvm.FP.Core.sumUnits false c q false d r (min q r))) (_root_.Jvm.FP.Core.sumUnits false c q false d r (min q r)).natAbs (min q r)) = _
    rw [hmm, hu, Int.natAbs_natCast]
    have hs : _root_.Jvm.FP.Core.sumSign false false ((c * 2 ^ (q - m).toNat + d * 2 ^ (r - m).toNat : Nat) : Int) = false := by
      unfold _root_.Jvm.FP.Core.sumSign
      split
      · rfl
      · exact decide_eq_false (by omega)
    rw [hs]
    rfl
  refine zrr hr (by decide) hV (Int.le_refl _) hm ?_
  unfold _root_.Jvm.FP.Core.inUnits
  rw [Nat.mul_one, show (-149 - (-149) : Int).toNat = 0 by decide, Nat.pow_zero, Nat.mul_one, Nat.add_mul, Nat.mul_assoc, Nat.mul_assoc, ← Nat.pow_add, ← Nat.pow_add, show (q - m).toNat + (m - -149).toNat = (q + 149).toNat by omega, show (r - m).toNat + (m - -149).toNat = (r + 149).toNat by omega, ← v1, ← v2]
  exact h
theorem zmul_V {x y V : UInt32} (hx : zPF x) (hy : zPF y) (hV : zPF V) (h : zVal x * zVal y ≤ zVal V * 2 ^ 149) : zPF (FP.fmul x y) ∧ zVal (FP.fmul x y) ≤ zVal V := by
  obtain ⟨c, q, e1, q1, v1⟩ := zPF_fin hx
  obtain ⟨d, r, e2, q2, v2⟩ := zPF_fin hy
  have hr : _root_.Jvm.FP.Core.val32 (FP.fmul x y) = _root_.Jvm.FP.Core.roundRatio _root_.Jvm.FP.Core.b32 false (c * d) 1 (q + r) := by
    show _root_.Jvm.FP.Core.val32 (FP.Core.fmul x y) = _
    rw [_root_.Jvm.FP.Core.val32_fmul, e1, e2]
    rfl
  refine zrr (e0 := -298) hr (by decide) hV (by decide) (by omega) ?_
  unfold _root_.Jvm.FP.Core.inUnits
  rw [Nat.mul_one, show (-149 - (-298) : Int).toNat = 149 by decide, show (q + r - -298).toNat = (q + 149).toNat + (r + 149).toNat by omega, Nat.pow_add]
  have e : c * d * (2 ^ (q + 149).toNat * 2 ^ (r + 149).toNat) = (c * 2 ^ (q + 149).toNat) * (d * 2 ^ (r + 149).toNat) := by ac_rfl
  rw [e, ← v1, ← v2]
  exact h
theorem zdiv_V {x y V : UInt32} (hx : zPF x) (hy : zPF y) (hV : zPF V) (h0 : 0 < zVal y) (h : zVal x * 2 ^ 149 ≤ zVal V * zVal y) : zPF (FP.fdiv x y) ∧ zVal (FP.fdiv x y) ≤ zVal V := by
  obtain ⟨c, q, e1, q1, v1⟩ := zPF_fin hx
  obtain ⟨d, r, e2, q2, v2⟩ := zPF_fin hy
  have hfit := _root_.Jvm.FP.Core.val32_fits y
  rw [e2] at hfit
  have hr2 : r ≤ 104 := hfit.2.2.1
  have hd : d ≠ 0 := fun e => by
    rw [e, Nat.zero_mul] at v2
    omega
  have hr : _root_.Jvm.FP.Core.val32 (FP.fdiv x y) = _root_.Jvm.FP.Core.roundRatio _root_.Jvm.FP.Core.b32 false c d (q - r) := by
    show _root_.Jvm.FP.Core.val32 (FP.Core.fdiv x y) = _
    rw [_root_.Jvm.FP.Core.val32_fdiv, e1, e2]
    exact if_neg hd
  refine zrr (e0 := -449) hr (by omega) hV (by decide) (by omega) ?_
  unfold _root_.Jvm.FP.Core.inUnits
  rw [show (-149 - (-449) : Int).toNat = (r + 149).toNat + (151 - r).toNat by omega, show (q - r - -449).toNat = (q + 149).toNat + (151 - r).toNat + 149 by omega, Nat.pow_add, Nat.pow_add, Nat.pow_add]
  have a1 : c * (2 ^ (q + 149).toNat * 2 ^ (151 - r).toNat * 2 ^ 149) = (c * 2 ^ (q + 149).toNat) * 2 ^ 149 * 2 ^ (151 - r).toNat := by ac_rfl
  have a2 : zVal V * (2 ^ (r + 149).toNat * 2 ^ (151 - r).toNat) * d = zVal V * (d * 2 ^ (r + 149).toNat) * 2 ^ (151 - r).toNat := by ac_rfl
  rw [a1, a2, ← v1, ← v2]
  exact Nat.mul_le_mul_right _ h
theorem zadd_0 {x : UInt32} (hx : zPF x) : FP.fadd x 0 = x := by
  symm
  refine _root_.Jvm.FP.Core.val32_inj (zPF_ne hx) ?_
  show _ = _root_.Jvm.FP.Core.val32 (FP.Core.fadd x 0)
  rw [_root_.Jvm.FP.Core.val32_fadd, _root_.Jvm.FP.Core.val32_zero]
  refine (_root_.Jvm.FP.Core.round_sum_zero _root_.Jvm.FP.Core.good_b32 (_root_.Jvm.FP.Core.val32_fits x) false (fun s q e => ?_)).symm
  have := zPF_sgn hx
  rw [e] at this
  exact Or.inl this
theorem z0_PF : zPF 0 := show (0 : UInt32).toNat < 2139095040 by decide
theorem zmul_0 {y : UInt32} (hy : zPF y) : FP.fmul 0 y = 0 := by
  obtain ⟨d, r, e2, q2, v2⟩ := zPF_fin hy
  symm
  refine _root_.Jvm.FP.Core.val32_inj (zPF_ne z0_PF) ?_
  show _ = _root_.Jvm.FP.Core.val32 (FP.Core.fmul 0 y)
  rw [_root_.Jvm.FP.Core.val32_fmul, e2, _root_.Jvm.FP.Core.val32_zero]
  show _ = _root_.Jvm.FP.Core.roundRatio _root_.Jvm.FP.Core.b32 false (0 * d) 1 _
  unfold _root_.Jvm.FP.Core.roundRatio
  rw [if_pos (Nat.zero_mul d)]
theorem zdiv_0 {y : UInt32} (hy : zPF y) (h0 : 0 < zVal y) : FP.fdiv 0 y = 0 := by
  obtain ⟨d, r, e2, q2, v2⟩ := zPF_fin hy
  have hd : d ≠ 0 := fun e => by
    rw [e, Nat.zero_mul] at v2
    omega
  symm
  refine _root_.Jvm.FP.Core.val32_inj (zPF_ne z0_PF) ?_
  show _ = _root_.Jvm.FP.Core.val32 (FP.Core.fdiv 0 y)
  rw [_root_.Jvm.FP.Core.val32_fdiv, e2, _root_.Jvm.FP.Core.val32_zero]
  show _ = if d = 0 then _ else _root_.Jvm.FP.Core.roundRatio _root_.Jvm.FP.Core.b32 false 0 d _
  rw [if_neg hd]
  unfold _root_.Jvm.FP.Core.roundRatio
  rw [if_pos rfl]
/-- small whole numbers -/
theorem zi2f {x : Int} (h : 0 ≤ x ∧ x ≤ 16777216) : zPF (FP.i2f (zI x)) ∧ (zVal (FP.i2f (zI x)) : Int) = x * 2 ^ 149 := by
  have hx : (zI x).toInt = x := zI_toI ⟨by omega, by omega⟩
  have hw : _root_.Jvm.FP.Core.FInt x (FP.i2f (zI x)) := by
    have := _root_.Jvm.FP.Core.i2f_int (a := zI x) (by rw [hx]; omega)
    rw [hx] at this
    exact this
  have hz := _root_.Jvm.FP.Core.FInt_zval hw
  have hn := _root_.Jvm.FP.Core.FInt_ne_nan hw
  have hm := _root_.Jvm.FP.Core.i2f_mag (zI x)
  have hm : (FP.i2f (zI x)).toNat % 2 ^ 31 < 160 * 2 ^ 23 := hm
  have hp : zPF (FP.i2f (zI x)) := by
    unfold zPF
    by_cases g : (FP.i2f (zI x)).toNat < 2 ^ 31
    · omega
    · exfalso
      have h1 := _root_.Jvm.FP.Core.zval_nonpos32 hn (by omega)
      have h3 : 0 ≤ x * (_root_.Jvm.FP.Core.one32 : Int) := Int.mul_nonneg h.1 (Int.natCast_nonneg _)
      have h4 : x * (_root_.Jvm.FP.Core.one32 : Int) = 0 := by omega
      have h5 : x = 0 := by
        rcases Int.mul_eq_zero.1 h4 with h5 | h5
        · exact h5
        · exfalso
          have := _root_.Jvm.FP.Core.one32_pos
          omega
      rw [h5] at g
      exact g (by decide +kernel)
  refine ⟨hp, ?_⟩
  rw [← zPF_zval hp, hz]
  rfl
theorem zVex {i k : Nat} (hi : i < 16777216) (hk : k ≤ 104) : ∃ V, zPF V ∧ zVal V = i * 2 ^ (k + 149) := by
  obtain ⟨c', q', r1, r2⟩ := _root_.Jvm.FP.Core.round_exact _root_.Jvm.FP.Core.good_b32 false (c := i) (q := (k : Int)) (show i < 2 ^ 24 by omega) (by rw [_root_.Jvm.FP.Core.qmin_b32]; omega) (show (k : Int) ≤ 104 by omega)
  have hf : _root_.Jvm.FP.Core.fits _root_.Jvm.FP.Core.b32 (.fin false c' q') := by
    rw [← r1]
    exact _root_.Jvm.FP.Core.round_fits _root_.Jvm.FP.Core.good_b32 _
  have hv := _root_.Jvm.FP.Core.val32_of32 hf
  have hff : _root_.Jvm.FP.Core.FFin (_root_.Jvm.FP.Core.of32 (.fin false c' q')) := ⟨_, _, _, hv⟩
  have hp : zPF (_root_.Jvm.FP.Core.of32 (.fin false c' q')) := by
    have h1 := (_root_.Jvm.FP.Core.fin_bits32 _).mp hff
    have h2 := _root_.Jvm.FP.Core.sgn_bits32 (a := _root_.Jvm.FP.Core.of32 (.fin false c' q')) (by rw [hv]; exact _root_.Jvm.FP.Core.Datum.noConfusion)
    rw [hv] at h2
    have h2 := of_decide_eq_false h2.symm
    unfold zPF
    omega
  refine ⟨_, hp, ?_⟩
  unfold zVal
  rw [hv]
  show _root_.Jvm.FP.Core.inUnits c' q' _root_.Jvm.FP.Core.b32.qmin = _
  rw [r2]
  unfold _root_.Jvm.FP.Core.inUnits
  rw [_root_.Jvm.FP.Core.qmin_b32, show ((k : Int) - -149).toNat = k + 149 by omega]
end FLOATS
