/-! ===== the law's calls: what each needs ===== -/
theorem yil_s {n : Nat} {G : Int → Int} {k : Int} {K : Int32 → Option zA} (h0 : 0 ≤ k) (h1 : k < n) (hn : (n : Int) ≤ 2147483648) : yil (some (.inl (9, n, .inl (zAI G)))) 0 (zI k) K = K (zI (G k)) := by
  unfold yil
  dsimp only
  rw [if_pos ⟨Or.inr ⟨rfl, rfl⟩, zin_I h0 h1 hn⟩, zI_clamp ⟨by omega, by omega⟩, zAI, Int.toNat_of_nonneg h0]
section LAWC
variable {b sb : Nat} {sc : zC} {σ : Nat → Nat → Int} {α lo : Nat → Int → Int} {φ : Nat → Int → UInt32}
theorem zw_low : ∀ a, a < b → zw b σ α lo φ a = none := fun a h => if_neg (by omega)
theorem zlaw_11 : zlaw b sb sc (zw b σ α lo φ) b = some (.inr (11, [.ref (b + 1), .ref (b + 65), .int (zI (σ 0 2)), .ref (b + 129), .ref (b + 131), .ref (b + 133), .ref (b + 137), .ref (b + 143), .ref (b + 146), .ref (b + 151), .ref (b + 152)])) := (zlaw_b (Nat.le_refl b)).trans zw_0
theorem zlaw_12 : ∃ fs, zlaw b sb sc (zw b σ α lo φ) (b + 165) = some (.inr (12, fs)) := ⟨_, (zlaw_b (Nat.le_add_right b 165)).trans zw_165⟩
theorem ycl_12 {r : Option zA} : ycl 12 (zlaw b sb sc (zw b σ α lo φ) (b + 165)) r = r := by
  obtain ⟨fs, h⟩ := zlaw_12 (b := b) (sb := sb) (sc := sc) (σ := σ) (α := α) (lo := lo) (φ := φ)
  rw [h]
  exact ycl_eq
theorem ycl_11 {r : Option zA} : ycl 11 (zlaw b sb sc (zw b σ α lo φ) b) r = r := by
  rw [zlaw_11]
  exact ycl_eq
theorem zlaw_int {kc km : Nat} {args : List Value} {t : zMT} (hk : zMeths[kc]? = some t) (ht : t.2.2.2.2 = 1) (h : zOK 0 b kc km args σ α lo φ) : ∃ (v : Int32) (σ1 : Nat → Nat → Int) (α1 lo1 : Nat → Int → Int) (φ1 : Nat → Int → UInt32) (σ2 : Nat → Nat → Int) (α2 lo2 : Nat → Int → Int) (φ2 : Nat → Int → UInt32), (∀ z, zlw 20 b kc (.ref b :: args) (z, zlaw b sb sc (zw b σ α lo φ)) = some (some (.int v), (z, zlaw b sb sc (zw b σ1 α1 lo1 φ1)))) ∧ (∀ z, zlw 20 b km (.ref (b + 165) :: args) (z, zlaw b sb sc (zw b σ1 α1 lo1 φ1)) = some (some (.int v), (z, zlaw b sb sc (zw b σ2 α2 lo2 φ2)))) ∧ zQR σ2 α2 lo2 := by
  obtain ⟨r, σ1, α1, lo1, φ1, σ2, α2, lo2, φ2, h1, h2, H'⟩ := h
  obtain ⟨v, hv⟩ := zcall_int hk ht (h1 (0, 0))
  injection hv with hv
  subst hv
  exact ⟨v, σ1, α1, lo1, φ1, σ2, α2, lo2, φ2, fun z => zlw_call zw_low (h1 z), fun z => zlw_call zw_low (h2 z), H'⟩
theorem zlaw_long {kc km : Nat} {args : List Value} {t : zMT} (hk : zMeths[kc]? = some t) (ht : t.2.2.2.2 = 3) (h : zOK 0 b kc km args σ α lo φ) : ∃ (v : Int64) (σ1 : Nat → Nat → Int) (α1 lo1 : Nat → Int → Int) (φ1 : Nat → Int → UInt32) (σ2 : Nat → Nat → Int) (α2 lo2 : Nat → Int → Int) (φ2 : Nat → Int → UInt32), (∀ z, zlw 20 b kc (.ref b :: args) (z, zlaw b sb sc (zw b σ α lo φ)) = some (some (.long v), (z, zlaw b sb sc (zw b σ1 α1 lo1 φ1)))) ∧ (∀ z, zlw 20 b km (.ref (b + 165) :: args) (z, zlaw b sb sc (zw b σ1 α1 lo1 φ1)) = some (some (.long v), (z, zlaw b sb sc (zw b σ2 α2 lo2 φ2)))) ∧ zQR σ2 α2 lo2 := by
  obtain ⟨r, σ1, α1, lo1, φ1, σ2, α2, lo2, φ2, h1, h2, H'⟩ := h
  obtain ⟨v, hv⟩ := zcall_long hk ht (h1 (0, 0))
  injection hv with hv
  subst hv
  exact ⟨v, σ1, α1, lo1, φ1, σ2, α2, lo2, φ2, fun z => zlw_call zw_low (h1 z), fun z => zlw_call zw_low (h2 z), H'⟩
end LAWC
