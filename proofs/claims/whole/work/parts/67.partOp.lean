/-! ===== the reference does a part: what becomes of the mind ===== -/
/-- the mind holds D -/
def zMD (α : Nat → Int → Int) (D : Int → Int) (c : Nat) : Prop := (∀ j : Int, 0 ≤ j → j < c → α 170 j = D j ∧ 0 ≤ D j ∧ D j ≤ 9999) ∧ ∀ j, zr (α 170 j)
def zRf (α α' lo lo' : Nat → Int → Int) : Prop := (∀ k, k ≠ 170 ∧ k ≠ 171 → α' k = α k) ∧ (∀ k, k ≠ 173 → lo' k = lo k) ∧ ∀ k j, zr (α' k j)
section PARTOP
variable {d b : Nat} {z : Nat × Nat} {σ : Nat → Nat → Int} {α lo : Nat → Int → Int} {φ : Nat → Int → UInt32} {c : Nat} {D Dk : Int → Int} {s w v Ak ai : Int}
theorem zRf_t {α1 α2 lo1 lo2 : Nat → Int → Int} (h : zRf α α1 lo lo1) (g : zRf α1 α2 lo1 lo2) : zRf α α2 lo lo2 := ⟨fun k e => (g.1 k e).trans (h.1 k e), fun k e => (g.2.1 k e).trans (h.2.1 k e), g.2.2⟩
theorem zrop_n {l2 : Option Value} (hM : zMD α D c) (hc : c ≤ 40) (hs : s = 61 ∨ s = 43 ∨ s = 45) (hw : 0 ≤ w ∧ w < c) (hv : 0 ≤ v ∧ v ≤ 9999) (hz : ∀ k j, zr (α k j)) : (zopk s w v D Dk Ak c → ∃ (α' : Nat → Int → Int), (∀ (d : Nat) (z : Nat × Nat), zruns (zcall (d + 4)) 12 2 cX12_partDone (308, [some (.ref (b + 165)), some (.int (zI ai)), l2, some (.int (zI w)), some (.int (zI s)), some (.int (zI v))], [], (z, zw b σ α lo φ)) = some (some (.int (zI 1)), (z, zw b σ α' lo φ))) ∧ zMD α' (zopf s w v D Dk Ak c) c ∧ zRf α α' lo lo) ∧ (¬ zopk s w v D Dk Ak c → ∃ (α' : Nat → Int → Int), (∀ (d : Nat) (z : Nat × Nat), zruns (zcall (d + 4)) 12 2 cX12_partDone (308, [some (.ref (b + 165)), some (.int (zI ai)), l2, some (.int (zI w)), some (.int (zI s)), some (.int (zI v))], [], (z, zw b σ α lo φ)) = some (some (.int (zI 0)), (z, zw b σ α' lo φ))) ∧ zRf α α' lo lo) := by
  obtain ⟨h1, h2⟩ := hM
  obtain ⟨e1, e2⟩ := h1 w hw.1 hw.2
  have hput : ∀ u : Int, zr (α 170 w + u) → zRf α (zup α 170 (zui (α 170) w (α 170 w + u))) lo lo := fun u hu => ⟨fun k e => zup_ne e.1, fun _ _ => rfl, zr_up hz (zr_ui h2 hu)⟩
  have hmd : ∀ u : Int, 0 ≤ α 170 w + u ∧ α 170 w + u ≤ 9999 → zMD (zup α 170 (zui (α 170) w (α 170 w + u))) (zui D w (D w + u)) c := fun u hu => by
    refine ⟨fun j a e => ?_, fun j => ?_⟩
    · rw [zup_eq]
      by_cases q : j = w
      · rw [q, zui_eq, zui_eq, e1]
        rw [e1] at hu
        exact ⟨rfl, hu⟩
      · rw [zui_ne q, zui_ne q]
        exact h1 j a e
    · rw [zup_eq]
      exact zr_ui h2 (by unfold zr; omega) j
  have hcm := fun (u : Int) (hu : zr (α 170 w + u)) (d : Nat) (z : Nat × Nat) => tX12_comes (d := d) (b := b) (z := z) (σ := σ) (α := α) (lo := lo) (φ := φ) (n := w) (v := u) (by omega) hu
  unfold zopk zopf
  rcases hs with rfl | rfl | rfl
  · rw [if_pos rfl, if_pos rfl]
    refine ⟨fun _ => ?_, fun h => absurd trivial h⟩
    have hc1 := hcm (v - α 170 w) (by unfold zr; omega)
    have hm1 := hmd (v - α 170 w) (by omega)
    have hp1 := hput (v - α 170 w) (by unfold zr; omega)
    rw [if_pos (by omega)] at hc1
    refine ⟨_, fun d z => ?_, ?_, hp1⟩
    · exact (by
        repeat' (first | rfl | (exfalso; first | omega | contradiction) | split | (rw [zruns_N 400]; simp (disch := first | assumption | omega | decide | ((simp (disch := omega) only [zup_ne, zup_eq]); first | assumption | omega)) only [sX12_partDone_308, sX12_partDone_309, sX12_partDone_310, sX12_partDone_312, sX12_partDone_314, sX12_partDone_317, sX12_partDone_319, sX12_partDone_320, sX12_partDone_323, sX12_partDone_324, sX12_partDone_325, sX12_partDone_326, sX12_partDone_329, sX12_partDone_331, sX12_partDone_333, sX12_partDone_336, sX12_partDone_338, sX12_partDone_341, sX12_partDone_343, sX12_partDone_344, sX12_partDone_347, zkp_i, zkp_a, zkp_f, zkp_l, zkp_d, zkp_n, ycl_eq, zI_add, zI_sub, zI_mul, zI_neg, zI_inj, zI_lt, zI_le, zI_eq0, zI_lt0, zI_gt0, zI_le0, zI_ge0, yil_ok, yll_ok, yfl_ok, yis_ok, yls_ok, yfs_ok, y0_s, y1_s, ybo_ok, zset_w, zruns_if, zui_eq, zus_eq, zup_eq, Int.reduceAdd, Int.reduceSub, Int.reduceMul, Int.reduceNeg, Int.reduceLT, Int.reduceLE, Int.reduceEq, if_true, if_false, not_true_eq_false, not_false_eq_true, zw_165, zp_165_2, zp_165_9, zp_165_10, zp_165_11, zp_165_12, zp_165_13, zp_165_14, zw_166, zp_166, zw_167, zp_167, zw_168, zp_168, zw_169, zp_169, zw_170, zp_170, zw_171, zp_171, zw_172, zp_172, zw_173, zp_173, zw_174, zp_174, zw_175, zp_175, zw_176, zp_176, zw_177, zp_177, zw_178, zp_178, zw_179, zp_179, yg12_0, yg12_1, yg12_2, yg12_3, yg12_4, yg12_5, yg12_6, yg12_7, yg12_8, yg12_9, yg12_10, yg12_11, yg12_12, yg12_13, yg12_14, yg12_15, yg12_16, yg12_17, yg12_18, yg12_19, yg12_20, yp12_0, yp12_1, yp12_2, yp12_3, yp12_4, yp12_5, yp12_6, yp12_7, yp12_8, yp12_9, yp12_10, yp12_11, yp12_12, yp12_13, yp12_14, yp12_15, yp12_16, yp12_17, yp12_18, yp12_19, yp12_20, hc1])))
    · rw [show D w + (v - α 170 w) = v by omega] at hm1
      exact hm1
  · rw [if_neg (by decide), if_pos rfl, if_neg (by decide), if_pos rfl]
    have hc1 := hcm v (by unfold zr; omega)
    have hp1 := hput v (by unfold zr; omega)
    constructor
    · intro hk
      have hm1 := hmd v (by omega)
      rw [if_pos (by omega)] at hc1
      refine ⟨_, fun d z => ?_, hm1, hp1⟩
      exact (by
        repeat' (first | rfl | (exfalso; first | omega | contradiction) | split | (rw [zruns_N 400]; simp (disch := first | assumption | omega | decide | ((simp (disch := omega) only [zup_ne, zup_eq]); first | assumption | omega)) only [sX12_partDone_308, sX12_partDone_309, sX12_partDone_310, sX12_partDone_312, sX12_partDone_314, sX12_partDone_317, sX12_partDone_319, sX12_partDone_320, sX12_partDone_323, sX12_partDone_324, sX12_partDone_325, sX12_partDone_326, sX12_partDone_329, sX12_partDone_331, sX12_partDone_333, sX12_partDone_336, sX12_partDone_338, sX12_partDone_341, sX12_partDone_343, sX12_partDone_344, sX12_partDone_347, zkp_i, zkp_a, zkp_f, zkp_l, zkp_d, zkp_n, ycl_eq, zI_add, zI_sub, zI_mul, zI_neg, zI_inj, zI_lt, zI_le, zI_eq0, zI_lt0, zI_gt0, zI_le0, zI_ge0, yil_ok, yll_ok, yfl_ok, yis_ok, yls_ok, yfs_ok, y0_s, y1_s, ybo_ok, zset_w, zruns_if, zui_eq, zus_eq, zup_eq, Int.reduceAdd, Int.reduceSub, Int.reduceMul, Int.reduceNeg, Int.reduceLT, Int.reduceLE, Int.reduceEq, if_true, if_false, not_true_eq_false, not_false_eq_true, zw_165, zp_165_2, zp_165_9, zp_165_10, zp_165_11, zp_165_12, zp_165_13, zp_165_14, zw_166, zp_166, zw_167, zp_167, zw_168, zp_168, zw_169, zp_169, zw_170, zp_170, zw_171, zp_171, zw_172, zp_172, zw_173, zp_173, zw_174, zp_174, zw_175, zp_175, zw_176, zp_176, zw_177, zp_177, zw_178, zp_178, zw_179, zp_179, yg12_0, yg12_1, yg12_2, yg12_3, yg12_4, yg12_5, yg12_6, yg12_7, yg12_8, yg12_9, yg12_10, yg12_11, yg12_12, yg12_13, yg12_14, yg12_15, yg12_16, yg12_17, yg12_18, yg12_19, yg12_20, yp12_0, yp12_1, yp12_2, yp12_3, yp12_4, yp12_5, yp12_6, yp12_7, yp12_8, yp12_9, yp12_10, yp12_11, yp12_12, yp12_13, yp12_14, yp12_15, yp12_16, yp12_17, yp12_18, yp12_19, yp12_20, hc1])))
    · intro hk
      rw [if_neg (by omega)] at hc1
      refine ⟨_, fun d z => ?_, hp1⟩
      exact (by
        repeat' (first | rfl | (exfalso; first | omega | contradiction) | split | (rw [zruns_N 400]; simp (disch := first | assumption | omega | decide | ((simp (disch := omega) only [zup_ne, zup_eq]); first | assumption | omega)) only [sX12_partDone_308, sX12_partDone_309, sX12_partDone_310, sX12_partDone_312, sX12_partDone_314, sX12_partDone_317, sX12_partDone_319, sX12_partDone_320, sX12_partDone_323, sX12_partDone_324, sX12_partDone_325, sX12_partDone_326, sX12_partDone_329, sX12_partDone_331, sX12_partDone_333, sX12_partDone_336, sX12_partDone_338, sX12_partDone_341, sX12_partDone_343, sX12_partDone_344, sX12_partDone_347, zkp_i, zkp_a, zkp_f, zkp_l, zkp_d, zkp_n, ycl_eq, zI_add, zI_sub, zI_mul, zI_neg, zI_inj, zI_lt, zI_le, zI_eq0, zI_lt0, zI_gt0, zI_le0, zI_ge0, yil_ok, yll_ok, yfl_ok, yis_ok, yls_ok, yfs_ok, y0_s, y1_s, ybo_ok, zset_w, zruns_if, zui_eq, zus_eq, zup_eq, Int.reduceAdd, Int.reduceSub, Int.reduceMul, Int.reduceNeg, Int.reduceLT, Int.reduceLE, Int.reduceEq, if_true, if_false, not_true_eq_false, not_false_eq_true, zw_165, zp_165_2, zp_165_9, zp_165_10, zp_165_11, zp_165_12, zp_165_13, zp_165_14, zw_166, zp_166, zw_167, zp_167, zw_168, zp_168, zw_169, zp_169, zw_170, zp_170, zw_171, zp_171, zw_172, zp_172, zw_173, zp_173, zw_174, zp_174, zw_175, zp_175, zw_176, zp_176, zw_177, zp_177, zw_178, zp_178, zw_179, zp_179, yg12_0, yg12_1, yg12_2, yg12_3, yg12_4, yg12_5, yg12_6, yg12_7, yg12_8, yg12_9, yg12_10, yg12_11, yg12_12, yg12_13, yg12_14, yg12_15, yg12_16, yg12_17, yg12_18, yg12_19, yg12_20, yp12_0, yp12_1, yp12_2, yp12_3, yp12_4, yp12_5, yp12_6, yp12_7, yp12_8, yp12_9, yp12_10, yp12_11, yp12_12, yp12_13, yp12_14, yp12_15, yp12_16, yp12_17, yp12_18, yp12_19, yp12_20, hc1])))
  · rw [if_neg (by decide), if_neg (by decide), if_pos rfl, if_neg (by decide), if_neg (by decide), if_pos rfl]
    have hc1 := hcm (-v) (by unfold zr; omega)
    have hp1 := hput (-v) (by unfold zr; omega)
    constructor
    · intro hk
      have hm1 := hmd (-v) (by omega)
      rw [if_pos (by omega)] at hc1
      refine ⟨_, fun d z => ?_, by rw [show D w - v = D w + -v by omega]; exact hm1, hp1⟩
      exact (by
        repeat' (first | rfl | (exfalso; first | omega | contradiction) | split | (rw [zruns_N 400]; simp (disch := first | assumption | omega | decide | ((simp (disch := omega) only [zup_ne, zup_eq]); first | assumption | omega)) only [sX12_partDone_308, sX12_partDone_309, sX12_partDone_310, sX12_partDone_312, sX12_partDone_314, sX12_partDone_317, sX12_partDone_319, sX12_partDone_320, sX12_partDone_323, sX12_partDone_324, sX12_partDone_325, sX12_partDone_326, sX12_partDone_329, sX12_partDone_331, sX12_partDone_333, sX12_partDone_336, sX12_partDone_338, sX12_partDone_341, sX12_partDone_343, sX12_partDone_344, sX12_partDone_347, zkp_i, zkp_a, zkp_f, zkp_l, zkp_d, zkp_n, ycl_eq, zI_add, zI_sub, zI_mul, zI_neg, zI_inj, zI_lt, zI_le, zI_eq0, zI_lt0, zI_gt0, zI_le0, zI_ge0, yil_ok, yll_ok, yfl_ok, yis_ok, yls_ok, yfs_ok, y0_s, y1_s, ybo_ok, zset_w, zruns_if, zui_eq, zus_eq, zup_eq, Int.reduceAdd, Int.reduceSub, Int.reduceMul, Int.reduceNeg, Int.reduceLT, Int.reduceLE, Int.reduceEq, if_true, if_false, not_true_eq_false, not_false_eq_true, zw_165, zp_165_2, zp_165_9, zp_165_10, zp_165_11, zp_165_12, zp_165_13, zp_165_14, zw_166, zp_166, zw_167, zp_167, zw_168, zp_168, zw_169, zp_169, zw_170, zp_170, zw_171, zp_171, zw_172, zp_172, zw_173, zp_173, zw_174, zp_174, zw_175, zp_175, zw_176, zp_176, zw_177, zp_177, zw_178, zp_178, zw_179, zp_179, yg12_0, yg12_1, yg12_2, yg12_3, yg12_4, yg12_5, yg12_6, yg12_7, yg12_8, yg12_9, yg12_10, yg12_11, yg12_12, yg12_13, yg12_14, yg12_15, yg12_16, yg12_17, yg12_18, yg12_19, yg12_20, yp12_0, yp12_1, yp12_2, yp12_3, yp12_4, yp12_5, yp12_6, yp12_7, yp12_8, yp12_9, yp12_10, yp12_11, yp12_12, yp12_13, yp12_14, yp12_15, yp12_16, yp12_17, yp12_18, yp12_19, yp12_20, hc1])))
    · intro hk
      rw [if_neg (by omega)] at hc1
      refine ⟨_, fun d z => ?_, hp1⟩
      exact (by
        repeat' (first | rfl | (exfalso; first | omega | contradiction) | split | (rw [zruns_N 400]; simp (disch := first | assumption | omega | decide | ((simp (disch := omega) only [zup_ne, zup_eq]); first | assumption | omega)) only [sX12_partDone_308, sX12_partDone_309, sX12_partDone_310, sX12_partDone_312, sX12_partDone_314, sX12_partDone_317, sX12_partDone_319, sX12_partDone_320, sX12_partDone_323, sX12_partDone_324, sX12_partDone_325, sX12_partDone_326, sX12_partDone_329, sX12_partDone_331, sX12_partDone_333, sX12_partDone_336, sX12_partDone_338, sX12_partDone_341, sX12_partDone_343, sX12_partDone_344, sX12_partDone_347, zkp_i, zkp_a, zkp_f, zkp_l, zkp_d, zkp_n, ycl_eq, zI_add, zI_sub, zI_mul, zI_neg, zI_inj, zI_lt, zI_le, zI_eq0, zI_lt0, zI_gt0, zI_le0, zI_ge0, yil_ok, yll_ok, yfl_ok, yis_ok, yls_ok, yfs_ok, y0_s, y1_s, ybo_ok, zset_w, zruns_if, zui_eq, zus_eq, zup_eq, Int.reduceAdd, Int.reduceSub, Int.reduceMul, Int.reduceNeg, Int.reduceLT, Int.reduceLE, Int.reduceEq, if_true, if_false, not_true_eq_false, not_false_eq_true, zw_165, zp_165_2, zp_165_9, zp_165_10, zp_165_11, zp_165_12, zp_165_13, zp_165_14, zw_166, zp_166, zw_167, zp_167, zw_168, zp_168, zw_169, zp_169, zw_170, zp_170, zw_171, zp_171, zw_172, zp_172, zw_173, zp_173, zw_174, zp_174, zw_175, zp_175, zw_176, zp_176, zw_177, zp_177, zw_178, zp_178, zw_179, zp_179, yg12_0, yg12_1, yg12_2, yg12_3, yg12_4, yg12_5, yg12_6, yg12_7, yg12_8, yg12_9, yg12_10, yg12_11, yg12_12, yg12_13, yg12_14, yg12_15, yg12_16, yg12_17, yg12_18, yg12_19, yg12_20, yp12_0, yp12_1, yp12_2, yp12_3, yp12_4, yp12_5, yp12_6, yp12_7, yp12_8, yp12_9, yp12_10, yp12_11, yp12_12, yp12_13, yp12_14, yp12_15, yp12_16, yp12_17, yp12_18, yp12_19, yp12_20, hc1])))
theorem zrop_s {l3 l4 l5 : Option Value} (hM : zMD α D c) (hc : c ≤ 40) (hc0 : α 166 0 = c) (hDz : ∀ j : Int, c ≤ j → j < 40 → D j = 0) (hv : 0 ≤ v ∧ v ≤ 9999) (hz : ∀ k j, zr (α k j)) : (zopk 37 w v D Dk Ak c → ∃ (α' lo' : Nat → Int → Int), (∀ (d : Nat) (z : Nat × Nat), zruns (zcall (d + 4)) 12 2 cX12_partDone (143, [some (.ref (b + 165)), some (.int (zI ai)), some (.int (zI v)), l3, l4, l5], [], (z, zw b σ α lo φ)) = some (some (.int (zI 1)), (z, zw b σ α' lo' φ))) ∧ zMD α' (zopf 37 w v D Dk Ak c) c ∧ zRf α α' lo lo') ∧ (¬ zopk 37 w v D Dk Ak c → ∃ (α' lo' : Nat → Int → Int), (∀ (d : Nat) (z : Nat × Nat), zruns (zcall (d + 4)) 12 2 cX12_partDone (143, [some (.ref (b + 165)), some (.int (zI ai)), some (.int (zI v)), l3, l4, l5], [], (z, zw b σ α lo φ)) = some (some (.int (zI 0)), (z, zw b σ α' lo' φ))) ∧ zRf α α' lo lo') := by
  obtain ⟨h1, h2⟩ := hM
  have hDb : ∀ j : Int, 0 ≤ j → j < 40 → 0 ≤ D j ∧ D j ≤ 9999 := fun j a e => by
    by_cases q : j < c
    · exact (h1 j a q).2
    · rw [hDz j (by omega) e]
      decide
  have hDc : zsm D 40 = zsm D c := by
    rw [show 40 = c + (40 - c) by omega, zsm_z' _ (fun n a e => hDz n (by omega) (by omega))]
  have hmc : zsm (α 170) c = zsm D c := zsm_c c (fun i hi => (h1 i (by omega) (by omega)).1)
  have hAb := zsm_r (G := D) (m := 9999) (by decide) c (fun j a e => hDb j a (by omega))
  have hal := fun (d : Nat) (z : Nat × Nat) => tX12_allInMind (d := d) (b := b) (z := z) (σ := σ) (α := α) (lo := lo) (φ := φ) (c := c) hc0 hc
  rw [hmc] at hal
  unfold zopk zopf
  rw [if_neg (by decide), if_neg (by decide), if_neg (by decide), if_neg (by decide), if_neg (by decide), if_neg (by decide), if_neg (by decide), if_neg (by decide), hDc]
  constructor
  · intro hk
    have hsh := fun (d : Nat) (z : Nat × Nat) => tX12_shares (d := d) (b := b) (z := z) (σ := σ) (α := α) (lo := lo) (φ := φ) (p := 1) (n := v) (k := 0) (A := zsm D c) (c := c) (D := D) (Or.inr rfl) (fun e => absurd e (by decide)) (fun _ => hal) (fun e => absurd e (by decide)) (fun _ => fun j a e => (h1 j a e).1) hc0 hc hk (by omega) (fun j a e => hDb j a (by omega)) rfl hv
    obtain ⟨a1, a2, a3, a4, a5⟩ := zso_ok (D := D) (old := fun _ => 0) (ro := fun _ => 0) (old' := α 171) (ro' := lo 173) (n := v) (A := zsm D c) (c := c) hDb hDz hDc hk hv hc
    have hlf := zlf (D := D) (n := v) (A := zsm D c) (c := c) (fun j a e => hDb j a (by omega)) hv.1 hk rfl
    have hzO : ∀ j, zr ((zsr (α 171) D (lo 173) v (zsm D c) c).1 j) := zgq_z (c : Int) (hz 171) (fun j a e => hDb j a (by omega)) hv hk ⟨hlf.2.2, Int.le_refl _⟩ _ _ (by omega)
    obtain ⟨O, hO⟩ : ∃ O, O = (zsr (α 171) D (lo 173) v (zsm D c) c).1 := ⟨_, rfl⟩
    obtain ⟨W, hW⟩ : ∃ W, W = (zsr (α 171) D (lo 173) v (zsm D c) c).2 := ⟨_, rfl⟩
    rw [← hO] at a1 hzO
    rw [← hO, ← hW] at hsh
    have hcp := fun (d : Nat) (z : Nat × Nat) => tX12_copies (d := d) (b := b) (z := z) (σ := σ) (α := zup α 171 O) (lo := zup lo 173 W) (φ := φ) (i := 171) (j := 170) (n := 40) (by decide) (by decide) (by decide) (by decide) (by decide) (by decide)
    rw [zup_eq, zup_ne (k := 171) (j := 170) (by decide)] at hcp
    refine ⟨zup (zup α 171 O) 170 (zfil O ((40 : Nat) : Int) (α 170)), zup lo 173 W, fun d z => ?_, ⟨fun j a e => ?_, fun j => ?_⟩, fun k e => by rw [zup_ne e.1, zup_ne e.2], fun k e => zup_ne e, zr_up (zr_up hz hzO) (zr_fil hzO h2)⟩
    · repeat' (first | rfl | (exfalso; first | omega | contradiction) | split | (rw [zruns_N 400]; simp (disch := first | assumption | omega | decide | ((simp (disch := omega) only [zup_ne, zup_eq]); first | assumption | omega)) only [sX12_partDone_143, sX12_partDone_144, sX12_partDone_145, sX12_partDone_146, sX12_partDone_147, sX12_partDone_150, sX12_partDone_153, sX12_partDone_154, sX12_partDone_155, sX12_partDone_156, sX12_partDone_159, sX12_partDone_160, sX12_partDone_163, sX12_partDone_166, sX12_partDone_167, zkp_i, zkp_a, zkp_f, zkp_l, zkp_d, zkp_n, ycl_eq, zI_add, zI_sub, zI_mul, zI_neg, zI_inj, zI_lt, zI_le, zI_eq0, zI_lt0, zI_gt0, zI_le0, zI_ge0, yil_ok, yll_ok, yfl_ok, yis_ok, yls_ok, yfs_ok, y0_s, y1_s, ybo_ok, zset_w, zruns_if, zui_eq, zus_eq, zup_eq, Int.reduceAdd, Int.reduceSub, Int.reduceMul, Int.reduceNeg, Int.reduceLT, Int.reduceLE, Int.reduceEq, if_true, if_false, not_true_eq_false, not_false_eq_true, zw_165, zp_165_2, zp_165_9, zp_165_10, zp_165_11, zp_165_12, zp_165_13, zp_165_14, zw_166, zp_166, zw_167, zp_167, zw_168, zp_168, zw_169, zp_169, zw_170, zp_170, zw_171, zp_171, zw_172, zp_172, zw_173, zp_173, zw_174, zp_174, zw_175, zp_175, zw_176, zp_176, zw_177, zp_177, zw_178, zp_178, zw_179, zp_179, yg12_0, yg12_1, yg12_2, yg12_3, yg12_4, yg12_5, yg12_6, yg12_7, yg12_8, yg12_9, yg12_10, yg12_11, yg12_12, yg12_13, yg12_14, yg12_15, yg12_16, yg12_17, yg12_18, yg12_19, yg12_20, yp12_0, yp12_1, yp12_2, yp12_3, yp12_4, yp12_5, yp12_6, yp12_7, yp12_8, yp12_9, yp12_10, yp12_11, yp12_12, yp12_13, yp12_14, yp12_15, yp12_16, yp12_17, yp12_18, yp12_19, yp12_20, hsh, hcp]))
    · rw [zup_eq, zfil_at (by omega), ← a1 j a e]
      have := a3 j a (by omega)
      show zQf D (zsm D c) v c j = zQf D (zsm D c) v c j ∧ 0 ≤ zQf D (zsm D c) v c j ∧ zQf D (zsm D c) v c j ≤ 9999
      unfold zQf
      omega
    · rw [zup_eq]
      exact zr_fil hzO h2 j
  · intro hk
    have e0 : zsm D c = 0 := by omega
    rw [e0] at hal
    have hsh := fun (d : Nat) (z : Nat × Nat) => tX12_shares_0 (d := d) (b := b) (z := z) (σ := σ) (α := α) (lo := lo) (φ := φ) (p := 1) (n := v) (k := 0) (Or.inr rfl) (fun e => absurd e (by decide)) (fun _ => hal)
    refine ⟨α, lo, fun d z => ?_, fun _ _ => rfl, fun _ _ => rfl, hz⟩
    repeat' (first | rfl | (exfalso; first | omega | contradiction) | split | (rw [zruns_N 400]; simp (disch := first | assumption | omega | decide | ((simp (disch := omega) only [zup_ne, zup_eq]); first | assumption | omega)) only [sX12_partDone_143, sX12_partDone_144, sX12_partDone_145, sX12_partDone_146, sX12_partDone_147, sX12_partDone_150, sX12_partDone_153, sX12_partDone_154, zkp_i, zkp_a, zkp_f, zkp_l, zkp_d, zkp_n, ycl_eq, zI_add, zI_sub, zI_mul, zI_neg, zI_inj, zI_lt, zI_le, zI_eq0, zI_lt0, zI_gt0, zI_le0, zI_ge0, yil_ok, yll_ok, yfl_ok, yis_ok, yls_ok, yfs_ok, y0_s, y1_s, ybo_ok, zset_w, zruns_if, zui_eq, zus_eq, zup_eq, Int.reduceAdd, Int.reduceSub, Int.reduceMul, Int.reduceNeg, Int.reduceLT, Int.reduceLE, Int.reduceEq, if_true, if_false, not_true_eq_false, not_false_eq_true, zw_165, zp_165_2, zp_165_9, zp_165_10, zp_165_11, zp_165_12, zp_165_13, zp_165_14, zw_166, zp_166, zw_167, zp_167, zw_168, zp_168, zw_169, zp_169, zw_170, zp_170, zw_171, zp_171, zw_172, zp_172, zw_173, zp_173, zw_174, zp_174, zw_175, zp_175, zw_176, zp_176, zw_177, zp_177, zw_178, zp_178, zw_179, zp_179, yg12_0, yg12_1, yg12_2, yg12_3, yg12_4, yg12_5, yg12_6, yg12_7, yg12_8, yg12_9, yg12_10, yg12_11, yg12_12, yg12_13, yg12_14, yg12_15, yg12_16, yg12_17, yg12_18, yg12_19, yg12_20, yp12_0, yp12_1, yp12_2, yp12_3, yp12_4, yp12_5, yp12_6, yp12_7, yp12_8, yp12_9, yp12_10, yp12_11, yp12_12, yp12_13, yp12_14, yp12_15, yp12_16, yp12_17, yp12_18, yp12_19, yp12_20, hsh]))
end PARTOP
