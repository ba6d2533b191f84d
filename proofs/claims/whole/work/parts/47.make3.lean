/-! ===== the public calls: make; the relation after something was made ===== -/
section MAKE3
variable {d b : Nat} {z : Nat × Nat} {σ : Nat → Nat → Int} {α lo : Nat → Int → Int} {φ : Nat → Int → UInt32}
/-- the arrays after something was made -/
def zmA (α : Nat → Int → Int) (D : Int → Int) (k n A m : Int) (c : Nat) : Nat → Int → Int := zup (zup (zup (zup (zup α 11 (ztk (α 11) D n 40)) 12 (zui (zwb m (α 12)) (zwm m) k)) 13 (zui (zwb m (α 13)) (zwm m) n)) 14 (zui (zwb m (α 14)) (zwm m) (n * A))) 166 (zmk (α 166) k n A m c)
theorem zmA_ne {D : Int → Int} {k n A m : Int} {c j : Nat} (h : j ≠ 11 ∧ j ≠ 12 ∧ j ≠ 13 ∧ j ≠ 14 ∧ j ≠ 166) : zmA α D k n A m c j = α j := by
  unfold zmA
  rw [zup_ne h.2.2.2.2, zup_ne h.2.2.2.1, zup_ne h.2.2.1, zup_ne h.2.1, zup_ne h.1]
theorem zQR_make {k c : Nat} {n : Int} (H : zQR σ α lo) (hk : k < 16) (hn : 1 ≤ n ∧ n ≤ 99) (hcc : σ 2 5 = c) (hcan : zcan (α 4) (α 10) (α (8 + 13 + 2 * k + 1)) (α 11) (σ (8 + 13 + 2 * k) 1) n c) : zQR (zus σ 9 5 (zwm (σ 9 5) + 1)) (zmA α (α (8 + 13 + 2 * k + 1)) k n (σ (8 + 13 + 2 * k) 1) (σ 9 5) c) lo := by
  obtain ⟨c0, c1, c2, c3, c4, c5⟩ := zQ_cnt H
  have hD := zQR_mix H (k := k) (by omega)
  have hA := zRD_A hD
  obtain ⟨s1, s2, s3⟩ := zQ_stock H
  have hB := zQ_book H
  have hno := zlk_no hcan.2.2
  generalize hm : σ 9 5 = m at *
  generalize hDD : α (8 + 13 + 2 * k + 1) = D at *
  generalize hAA : σ (8 + 13 + 2 * k) 1 = A at *
  obtain ⟨S, hS⟩ : ∃ S, S = α 166 := ⟨_, rfl⟩
  obtain ⟨R, hR⟩ : ∃ R, R = zmk S k n A m c := ⟨_, rfl⟩
  have hwm : 0 ≤ zwm m ∧ zwm m ≤ 29 ∧ (m < 30 ∧ zwm m = m ∨ m = 30 ∧ zwm m = 29) := by
    unfold zwm
    split
    · omega
    · omega
  have hS2 : ∃ S2 : Int → Int, R = zui (zui (zui (zui S2 (1340 + 3 * zwm m) (k : Int)) (1340 + 3 * zwm m + 1) n) (1340 + 3 * zwm m + 2) (A * n)) 1 (zwm m + 1) ∧ (∀ j, j ≠ 1 → ¬ (1340 ≤ j ∧ j < 1430) → S2 j = zst S k n c j) ∧ (∀ i : Int, 0 ≤ i → i < 3 * zwm m → S2 (1340 + i) = if m < 30 then S (1340 + i) else S (1343 + i)) := by
    have hst : ∀ j, 460 ≤ j → zst S k n c j = S j := fun j hj => zst_ge (by omega)
    refine ⟨if m < 30 then zst S k n c else zui (zcp (zst S k n c) (zst S k n c) 1343 1340 87) 1 29, hR, fun j j1 j2 => ?_, fun i i0 i1 => ?_⟩
    · by_cases q : m < 30
      · rw [if_pos q]
      · rw [if_neg q, zui_ne j1, zcp_ne (by omega)]
    · by_cases q : m < 30
      · rw [if_pos q, if_pos q, hst (1340 + i) (by omega)]
      · rw [if_neg q, if_neg q, zui_ne (by omega), zcp_at (by omega), show 1343 + (1340 + i - 1340) = 1343 + i by omega, hst (1343 + i) (by omega)]
  obtain ⟨S2, r0, r2, r3⟩ := hS2
  have r1 : R 1 = zwm m + 1 := by rw [r0, zui_eq]
  have rO : ∀ j, j ≠ 1 → ¬ (1340 ≤ j ∧ j < 1430) → R j = zst S k n c j := fun j j1 j2 => by
    rw [r0, zui_ne j1, zui_ne (by omega), zui_ne (by omega), zui_ne (by omega), r2 j j1 j2]
  have rN : ∀ j, j ≠ 1 → ¬ (1340 ≤ j ∧ j < 1430) → (j < 20 ∨ 450 ≤ j ∨ (j - 20) % 11 ≠ 0) → R j = S j := fun j j1 j2 j3 => by
    rw [rO j j1 j2]
    rcases j3 with q | q | q
    · exact zst_ge (by omega)
    · exact zst_ge (by omega)
    · exact zst_ne q
  have hpz : ∀ j : Int, 0 ≤ j → j < 40 → 0 ≤ n * D j := fun j a e => Int.mul_nonneg (by omega) (hD.2.1 j a e).1
  have hzS : ∀ j, zr (S j) := by rw [hS]; exact zQR_rng H 166
  have hnA := zmul_b (x := n) (y := A) (p := 99) (q := 399960) (by omega) hA
  have hAn := zmul_b (x := A) (y := n) (p := 399960) (q := 99) hA (by omega)
  have hzD : ∀ j, zr (D j) := by rw [← hDD]; exact zQR_rng H _
  have rR : ∀ j, zr (R j) := by
    have z1 : ∀ j, j ≠ 1 → ¬ (1340 ≤ j ∧ j < 1430) → zr (R j) := fun j j1 j2 => by
      rw [rO j j1 j2]
      by_cases q : 20 ≤ j ∧ j < 20 + 11 * (c : Int) ∧ (j - 20) % 11 = 0
      · obtain ⟨i, hi⟩ : ∃ i, i = (j - 20) / 11 := ⟨_, rfl⟩
        have ej : j = 10 + 11 * i + 10 := by omega
        rw [ej, zst_at (by omega), hS, ← s1 i (by omega) (by omega), ← hD.1 i (by omega) (by omega)]
        have h1 := hno i (by omega) (by omega)
        have h2 := s2 i (by omega) (by omega)
        have h3 := hpz i (by omega) (by omega)
        unfold zr
        omega
      · rw [show zst S k n c j = S j from if_neg q]
        exact hzS j
    intro j
    by_cases e1 : j = 1
    · rw [e1, r1]
      unfold zr
      omega
    · by_cases e2 : 1340 ≤ j ∧ j < 1430
      · rw [hR]
        unfold zmk
        refine zr_ui (zr_ui (zr_ui (zr_ui ?_ (by unfold zr; omega)) (by unfold zr; omega)) (by unfold zr; omega)) (by unfold zr; omega) j
        have z0 : ∀ j, zr (zst S k n c j) := fun j => by
          by_cases q : 20 ≤ j ∧ j < 20 + 11 * (c : Int) ∧ (j - 20) % 11 = 0
          · have := z1 j (by omega) (by omega)
            rw [rO j (by omega) (by omega)] at this
            exact this
          · rw [show zst S k n c j = S j from if_neg q]
            exact hzS j
        split
        · exact z0
        · exact zr_ui (zr_cp z0 z0) (by decide)
      · exact z1 j e1 e2
  have hzW : ∀ (P : Int → Int) (v : Int), (∀ j, zr (P j)) → zr v → ∀ j, zr (zui (zwb m P) (zwm m) v j) := fun P v hP hv => by
    refine zr_ui ?_ hv
    unfold zwb
    split
    · exact hP
    · exact zr_cp hP hP
  have htk : ∀ j : Int, 0 ≤ j → j < 40 → ztk (α 11) D n 40 j = α 11 j - n * D j := fun j a e => ztk_at (by omega)
  have hztk : ∀ j, zr (ztk (α 11) D n 40 j) := fun j => by
    by_cases q : 0 ≤ j ∧ j < 40
    · rw [htk j q.1 q.2]
      have h1 := hno j q.1 q.2
      have h2 := s2 j q.1 q.2
      have h3 := hpz j q.1 q.2
      unfold zr
      omega
    · rw [show ztk (α 11) D n 40 j = α 11 j from if_neg q]
      exact zQR_rng H 11 j
  have hbk : ∀ (P : Int → Int) (v : Int) (o : Int), (o = 0 ∨ o = 1 ∨ o = 2) → (∀ i : Int, 0 ≤ i → i < m → P i = S (1340 + 3 * i + o)) → R (1340 + 3 * zwm m + o) = v → ∀ i : Int, 0 ≤ i → i < zwm m + 1 → zui (zwb m P) (zwm m) v i = R (1340 + 3 * i + o) := by
    intro P v o ho hP hv i i0 i1
    by_cases e : i = zwm m
    · rw [e, zui_eq, hv]
    · rw [zui_ne e, r0, zui_ne (by omega), zui_ne (by omega), zui_ne (by omega), zui_ne (by omega), show 1340 + 3 * i + o = 1340 + (3 * i + o) by omega, r3 _ (by omega) (by omega)]
      unfold zwb
      rcases hwm.2.2 with ⟨q1, q2⟩ | ⟨q1, q2⟩
      · rw [if_pos q1, if_pos q1, hP i i0 (by omega), show 1340 + 3 * i + o = 1340 + (3 * i + o) by omega]
      · rw [if_neg (by omega), if_neg (by omega), zcp_at (by omega), hP _ (by omega) (by omega)]
        congr 1
        omega
  show zQR _ (zup (zup (zup (zup (zup α 11 (ztk (α 11) D n 40)) 12 (zui (zwb m (α 12)) (zwm m) k)) 13 (zui (zwb m (α 13)) (zwm m) n)) 14 (zui (zwb m (α 14)) (zwm m) (n * A))) 166 (zmk (α 166) k n A m c)) lo
  rw [← hS, ← hR]
  refine zQR_u H (zRH_mk1 ?_ ?_ ?_ (fun q hq => ?_) ?_ ?_ ?_ ?_) (fun j hj => ?_) (fun i j hi => zus_ne (by unfold zfs' at hi; omega)) rfl (zr_up (zr_up (zr_up (zr_up (zr_up (zQR_rng H) hztk) (hzW _ _ (zQR_rng H 12) (by unfold zr; omega))) (hzW _ _ (zQR_rng H 13) (by unfold zr; omega))) (hzW _ _ (zQR_rng H 14) (by unfold zr; omega))) rR) (zQR_lng H)
  · simp (disch := omega) only [zup_eq, zup_ne, zus_eq, zus_ne]
    refine ⟨?_, r1, ?_, c3, by omega, c5⟩
    · rw [rN 0 (by omega) (by omega) (by omega), hS, c0]
    · rw [rN 2 (by omega) (by omega) (by omega), hS, c2]
  · simp (disch := omega) only [zup_eq, zup_ne, zus_eq, zus_ne]
    exact zRN_u (zQ_note H) (fun i j a0 a1 a2 a3 => by rw [rN _ (by omega) (by omega) (by omega), hS])
  · simp (disch := omega) only [zup_eq, zup_ne, zus_eq, zus_ne]
    refine ⟨fun i i0 i1 => ?_, fun i i0 i1 => ?_, fun i i0 i1 => ?_⟩
    · rw [htk i i0 (by omega), rO _ (by omega) (by omega), zst_at (by omega), hS, s1 i i0 i1, hD.1 i i0 i1]
    · rw [htk i i0 i1]
      have h1 := hno i i0 i1
      have h2 := s2 i i0 i1
      have h3 := hpz i i0 i1
      omega
    · rw [htk i (by omega) i1, s3 i i0 i1, hD.2.2.1 i i0 i1, Int.mul_zero]
      rfl
  · simp (disch := omega) only [zup_eq, zup_ne, zus_eq, zus_ne]
    exact zRD_u (zQR_mix H hq) (fun i a0 a1 => by rw [rN _ (by omega) (by omega) (by omega), hS])
  · simp (disch := omega) only [zup_eq, zup_ne, zus_eq, zus_ne]
    exact zRL_u (zQ_limit H) (fun f a0 a1 => by rw [rN _ (by omega) (by omega) (by omega), hS])
  · simp (disch := omega) only [zup_eq, zup_ne, zus_eq, zus_ne]
    intro i i0 i1
    have b1 := hbk (α 12) k 0 (by omega) (fun i a e => by rw [Int.add_zero, hS]; exact (hB i a e).1) (by rw [Int.add_zero, r0, zui_ne (by omega), zui_ne (by omega), zui_ne (by omega), zui_eq]) i i0 i1
    have b2 := hbk (α 13) n 1 (by omega) (fun i a e => by rw [hS]; exact (hB i a e).2.1) (by rw [r0, zui_ne (by omega), zui_ne (by omega), zui_eq]) i i0 i1
    have b3 := hbk (α 14) (n * A) 2 (by omega) (fun i a e => by rw [hS]; exact (hB i a e).2.2) (by rw [r0, zui_ne (by omega), zui_eq, Int.mul_comm]) i i0 i1
    rw [Int.add_zero] at b1
    exact ⟨b1, b2, b3⟩
  · simp (disch := omega) only [zup_eq, zup_ne, zus_eq, zus_ne]
    exact zRO_u (zQ_order H) (fun j a0 a1 => by rw [rN _ (by omega) (by omega) (by omega), hS])
  · simp (disch := omega) only [zup_eq, zup_ne, zus_eq, zus_ne]
    exact zQ_diff H
  · unfold zfa' at hj
    simp (disch := omega) only [zup_ne]
theorem oX_make {x y : Int} (H : zQR σ α lo) (hx : zr x) (hy : zr y) : zOK d b kX11_make kX12_make [.int (zI x), .int (zI y)] σ α lo φ := by
  obtain ⟨c0, c1, c2, c3, c4, c5⟩ := zQ_cnt H
  by_cases h : 0 ≤ x ∧ x ≤ 15
  · obtain ⟨k, rfl⟩ := Int.eq_ofNat_of_zero_le h.1
    have k22 : k < 22 := by omega
    by_cases hq : 1 ≤ y ∧ y ≤ 99
    · obtain ⟨c, hcc⟩ := Int.eq_ofNat_of_zero_le c3.1
      have hc40 : c ≤ 40 := by omega
      have hD := zQR_mix H k22
      have hA := zRD_A hD
      have hG : ∀ f : Int, 0 ≤ f → f < 8 → 0 ≤ α 10 f ∧ α 10 f ≤ 1000 := fun f a e => (zQ_limit H f a e).2
      obtain ⟨v, hv, hvc, hcm⟩ := tX1_canMake (b := b) (lo := lo) (φ := φ) k22 hq hcc hc40 (by rw [hcc] at hD; exact hD) hG (zQR_rng H)
      have hN := zQ_note H
      have hS := zQ_stock H
      rw [hcc] at hN hS hD
      rw [hcc] at c0
      by_cases hcan : zcan (α 4) (α 10) (α (8 + 13 + 2 * k + 1)) (α 11) (σ (8 + 13 + 2 * k) 1) y c
      · have hv1 := hvc.2 hcan
        rw [hv1] at hcm
        have hrel := zQR_make H (k := k) (by omega) hq hcc hcan
        obtain ⟨α1, hα1⟩ : ∃ α1, α1 = zup (zup (zup (zup α 11 (ztk (α 11) (α (8 + 13 + 2 * k + 1)) y 40)) 12 (zui (zwb (σ 9 5) (α 12)) (zwm (σ 9 5)) k)) 13 (zui (zwb (σ 9 5) (α 13)) (zwm (σ 9 5)) y)) 14 (zui (zwb (σ 9 5) (α 14)) (zwm (σ 9 5)) (y * σ (8 + 13 + 2 * k) 1)) := ⟨_, rfl⟩
        have e166 : α1 166 = α 166 := by rw [hα1, zup_ne (by decide), zup_ne (by decide), zup_ne (by decide), zup_ne (by decide)]
        have htk := fun (d : Nat) (z : Nat × Nat) => tX9_take (d := d) (b := b) (z := z) (σ := σ) (α := α) (lo := lo) (φ := φ) (x := k) (n := y) k22 c4
        rw [← hα1] at htk
        have hmk := fun (d : Nat) (z : Nat × Nat) => tX12_make_yes (d := d) (b := b) (z := z) (σ := zus σ 9 5 (zwm (σ 9 5) + 1)) (α := α1) (lo := lo) (φ := φ) (k := k) (c := c) (n := y) (m := σ 9 5) (by omega) hq (by rw [e166]; exact c0) hc40 (by rw [e166]; exact hN) (by rw [e166]; exact hD) (by rw [e166]; exact zQ_limit H) (by rw [e166]; exact hS) (by rw [e166]; exact zQR_rng H 166) (by rw [e166]; exact c1) c4 hcan
        rw [e166] at hmk
        refine ⟨.int (zI (y * σ (8 + 13 + 2 * k) 1)), zus σ 9 5 (zwm (σ 9 5) + 1), α1, lo, φ, zus σ 9 5 (zwm (σ 9 5) + 1), zup α1 166 (zmk (α 166) k y (σ (8 + 13 + 2 * k) 1) (σ 9 5) c), lo, φ, fun z => ?_, fun z => ?_, ?_⟩
        · rw [qX11_make rfl]
          repeat' (first | rfl | (exfalso; first | omega | contradiction) | split | (rw [zruns_N 400]; simp (disch := first | assumption | omega | decide | ((simp (disch := omega) only [zup_ne, zup_eq]); first | assumption | omega)) only [sX11_make_0, sX11_make_1, sX11_make_4, sX11_make_7, sX11_make_8, sX11_make_9, sX11_make_10, sX11_make_11, sX11_make_13, sX11_make_16, sX11_make_19, sX11_make_21, sX11_make_22, sX11_make_23, sX11_make_26, sX11_make_27, sX11_make_28, sX11_make_31, sX11_make_34, sX11_make_35, sX11_make_38, sX11_make_41, sX11_make_42, sX11_make_43, sX11_make_44, sX11_make_47, sX11_make_50, sX11_make_51, sX11_make_52, sX11_make_55, sX11_make_58, sX11_make_60, zkp_i, zkp_a, zkp_f, zkp_l, zkp_d, zkp_n, ycl_eq, zI_add, zI_sub, zI_mul, zI_neg, zI_inj, zI_lt, zI_le, zI_eq0, zI_lt0, zI_gt0, zI_le0, zI_ge0, yil_ok, yll_ok, yfl_ok, yis_ok, yls_ok, yfs_ok, y0_s, y1_s, ybo_ok, zset_w, zruns_if, zui_eq, zus_eq, zup_eq, Int.reduceAdd, Int.reduceSub, Int.reduceMul, Int.reduceNeg, Int.reduceLT, Int.reduceLE, Int.reduceEq, if_true, if_false, not_true_eq_false, not_false_eq_true, zw_0, zp_0_2, zw_1, zw_2, zp_2_5, zw_3, zp_3, zw_4, zp_4, zw_5, zp_5, zw_6, zp_6, zw_7, zp_7, zw_8, zw_9, zp_9_5, zw_10, zp_10, zw_11, zp_11, zw_12, zp_12, zw_13, zp_13, zw_14, zp_14, zw_15, zp_15_5, zw_16, zp_16, zw_17, zp_17, zw_18, zp_18, zw_19, zp_19, zw_20, zp_20, zw_65, zw_66, zp_66_5, zw_67, zp_67, zw_68, zp_68, zw_69, zp_69, zw_70, zp_70, zw_71, zp_71, zw_72, zw_73, zp_73_5, zw_74, zp_74, zw_75, zp_75, zw_76, zp_76, zw_77, zp_77, zw_78, zp_78, zw_79, zp_79_5, zw_80, zp_80, zw_81, zp_81, zw_82, zp_82, zw_83, zp_83, zw_84, zp_84, zw_129, zp_129_1, zw_130, zp_130, zw_131, zp_131_1, zw_132, zp_132, zw_133, zp_133_5, zp_133_6, zp_133_7, zw_134, zp_134, zw_135, zp_135, zw_136, zp_136, zw_137, zw_138, zp_138_1, zw_139, zp_139, zw_140, zp_140_1, zw_141, zp_141, zw_142, zp_142, zw_143, zw_144, zp_144_1, zw_145, zp_145, zw_146, zp_146_4, zw_147, zp_147, zw_148, zp_148, zw_149, zp_149, zw_150, zp_150, zw_151, zw_152, zp_152, zw_153, zp_153_1, zp_153_2, zp_153_3, zw_154, zp_154, zw_155, zp_155_1, zp_155_2, zp_155_3, zw_156, zp_156, zw_157, zp_157_1, zp_157_2, zp_157_3, zw_158, zp_158, zw_159, zp_159_1, zp_159_2, zp_159_3, zw_160, zp_160, zw_161, zp_161_1, zp_161_2, zp_161_3, zw_162, zp_162, zw_163, zp_163_1, zp_163_2, zp_163_3, zw_164, zp_164, yg0_0, yg0_1, yg0_2, yg0_3, yg0_4, yg1_0, yg1_1, yg1_2, yg1_3, yg2_0, yg2_1, yg2_2, yg3_0, yg3_1, yg4_0, yg5_0, yg5_1, yg5_2, yg5_3, yg5_4, yg5_5, yg6_0, yg6_1, yg6_2, yg6_3, yg6_4, yg6_5, yg7_0, yg7_1, yg7_2, yg7_3, yg7_4, yg7_5, yg7_6, yg7_7, yg8_0, yg8_1, yg8_2, yg8_3, yg9_0, yg9_1, yg9_2, yg9_3, yg9_4, yg9_5, yg10_0, yg10_1, yg11_0, yg11_1, yg11_2, yg11_3, yg11_4, yg11_5, yg11_6, yg11_7, yg11_8, yg11_9, yg11_10, yp0_0, yp0_1, yp0_2, yp0_3, yp0_4, yp1_0, yp1_1, yp1_2, yp1_3, yp2_0, yp2_1, yp2_2, yp3_0, yp3_1, yp4_0, yp5_0, yp5_1, yp5_2, yp5_3, yp5_4, yp5_5, yp6_0, yp6_1, yp6_2, yp6_3, yp6_4, yp6_5, yp7_0, yp7_1, yp7_2, yp7_3, yp7_4, yp7_5, yp7_6, yp7_7, yp8_0, yp8_1, yp8_2, yp8_3, yp9_0, yp9_1, yp9_2, yp9_3, yp9_4, yp9_5, yp10_0, yp10_1, yp11_0, yp11_1, yp11_2, yp11_3, yp11_4, yp11_5, yp11_6, yp11_7, yp11_8, yp11_9, yp11_10, tX11_isBlend, tX11_isWithin, hcm, yal_m (k := 8) (n := 22) (j := k) rfl k22 (by decide), htk]))
        · rw [Int.mul_comm y]
          exact hmk (d + 16) z
        · rw [hα1]
          exact hrel
      · have hv0 : v = 0 := by
          rcases hv with e | e
          · exact e
          · exact absurd (hvc.1 e) hcan
        rw [hv0] at hcm
        refine zOK_r (.int (zI (-3))) H (fun z => ?_) (fun z => ?_)
        · rw [qX11_make rfl]
          repeat' (first | rfl | (exfalso; first | omega | contradiction) | split | (rw [zruns_N 400]; simp (disch := first | assumption | omega | decide | ((simp (disch := omega) only [zup_ne, zup_eq]); first | assumption | omega)) only [sX11_make_0, sX11_make_1, sX11_make_4, sX11_make_7, sX11_make_8, sX11_make_9, sX11_make_10, sX11_make_11, sX11_make_13, sX11_make_16, sX11_make_19, sX11_make_21, sX11_make_22, sX11_make_23, sX11_make_26, sX11_make_27, sX11_make_28, sX11_make_31, sX11_make_34, sX11_make_35, sX11_make_38, sX11_make_41, sX11_make_42, sX11_make_43, sX11_make_44, sX11_make_47, sX11_make_50, sX11_make_51, sX11_make_52, sX11_make_55, sX11_make_58, sX11_make_60, zkp_i, zkp_a, zkp_f, zkp_l, zkp_d, zkp_n, ycl_eq, zI_add, zI_sub, zI_mul, zI_neg, zI_inj, zI_lt, zI_le, zI_eq0, zI_lt0, zI_gt0, zI_le0, zI_ge0, yil_ok, yll_ok, yfl_ok, yis_ok, yls_ok, yfs_ok, y0_s, y1_s, ybo_ok, zset_w, zruns_if, zui_eq, zus_eq, zup_eq, Int.reduceAdd, Int.reduceSub, Int.reduceMul, Int.reduceNeg, Int.reduceLT, Int.reduceLE, Int.reduceEq, if_true, if_false, not_true_eq_false, not_false_eq_true, zw_0, zp_0_2, zw_1, zw_2, zp_2_5, zw_3, zp_3, zw_4, zp_4, zw_5, zp_5, zw_6, zp_6, zw_7, zp_7, zw_8, zw_9, zp_9_5, zw_10, zp_10, zw_11, zp_11, zw_12, zp_12, zw_13, zp_13, zw_14, zp_14, zw_15, zp_15_5, zw_16, zp_16, zw_17, zp_17, zw_18, zp_18, zw_19, zp_19, zw_20, zp_20, zw_65, zw_66, zp_66_5, zw_67, zp_67, zw_68, zp_68, zw_69, zp_69, zw_70, zp_70, zw_71, zp_71, zw_72, zw_73, zp_73_5, zw_74, zp_74, zw_75, zp_75, zw_76, zp_76, zw_77, zp_77, zw_78, zp_78, zw_79, zp_79_5, zw_80, zp_80, zw_81, zp_81, zw_82, zp_82, zw_83, zp_83, zw_84, zp_84, zw_129, zp_129_1, zw_130, zp_130, zw_131, zp_131_1, zw_132, zp_132, zw_133, zp_133_5, zp_133_6, zp_133_7, zw_134, zp_134, zw_135, zp_135, zw_136, zp_136, zw_137, zw_138, zp_138_1, zw_139, zp_139, zw_140, zp_140_1, zw_141, zp_141, zw_142, zp_142, zw_143, zw_144, zp_144_1, zw_145, zp_145, zw_146, zp_146_4, zw_147, zp_147, zw_148, zp_148, zw_149, zp_149, zw_150, zp_150, zw_151, zw_152, zp_152, zw_153, zp_153_1, zp_153_2, zp_153_3, zw_154, zp_154, zw_155, zp_155_1, zp_155_2, zp_155_3, zw_156, zp_156, zw_157, zp_157_1, zp_157_2, zp_157_3, zw_158, zp_158, zw_159, zp_159_1, zp_159_2, zp_159_3, zw_160, zp_160, zw_161, zp_161_1, zp_161_2, zp_161_3, zw_162, zp_162, zw_163, zp_163_1, zp_163_2, zp_163_3, zw_164, zp_164, yg0_0, yg0_1, yg0_2, yg0_3, yg0_4, yg1_0, yg1_1, yg1_2, yg1_3, yg2_0, yg2_1, yg2_2, yg3_0, yg3_1, yg4_0, yg5_0, yg5_1, yg5_2, yg5_3, yg5_4, yg5_5, yg6_0, yg6_1, yg6_2, yg6_3, yg6_4, yg6_5, yg7_0, yg7_1, yg7_2, yg7_3, yg7_4, yg7_5, yg7_6, yg7_7, yg8_0, yg8_1, yg8_2, yg8_3, yg9_0, yg9_1, yg9_2, yg9_3, yg9_4, yg9_5, yg10_0, yg10_1, yg11_0, yg11_1, yg11_2, yg11_3, yg11_4, yg11_5, yg11_6, yg11_7, yg11_8, yg11_9, yg11_10, yp0_0, yp0_1, yp0_2, yp0_3, yp0_4, yp1_0, yp1_1, yp1_2, yp1_3, yp2_0, yp2_1, yp2_2, yp3_0, yp3_1, yp4_0, yp5_0, yp5_1, yp5_2, yp5_3, yp5_4, yp5_5, yp6_0, yp6_1, yp6_2, yp6_3, yp6_4, yp6_5, yp7_0, yp7_1, yp7_2, yp7_3, yp7_4, yp7_5, yp7_6, yp7_7, yp8_0, yp8_1, yp8_2, yp8_3, yp9_0, yp9_1, yp9_2, yp9_3, yp9_4, yp9_5, yp10_0, yp10_1, yp11_0, yp11_1, yp11_2, yp11_3, yp11_4, yp11_5, yp11_6, yp11_7, yp11_8, yp11_9, yp11_10, tX11_isBlend, tX11_isWithin, hcm]))
        · exact tX12_make_no (d := d + 16) (k := k) (c := c) (by omega) hq c0 hc40 hN hD (zQ_limit H) hS (zQR_rng H 166) hcan
    · refine zOK_r (.int (zI (-2))) H (fun z => ?_) (fun z => ?_)
      · rw [qX11_make rfl]
        repeat' (first | rfl | (exfalso; first | omega | contradiction) | split | (rw [zruns_N 400]; simp (disch := first | assumption | omega | decide | ((simp (disch := omega) only [zup_ne, zup_eq]); first | assumption | omega)) only [sX11_make_0, sX11_make_1, sX11_make_4, sX11_make_7, sX11_make_8, sX11_make_9, sX11_make_10, sX11_make_11, sX11_make_13, sX11_make_16, sX11_make_19, sX11_make_21, zkp_i, zkp_a, zkp_f, zkp_l, zkp_d, zkp_n, ycl_eq, zI_add, zI_sub, zI_mul, zI_neg, zI_inj, zI_lt, zI_le, zI_eq0, zI_lt0, zI_gt0, zI_le0, zI_ge0, yil_ok, yll_ok, yfl_ok, yis_ok, yls_ok, yfs_ok, y0_s, y1_s, ybo_ok, zset_w, zruns_if, zui_eq, zus_eq, zup_eq, Int.reduceAdd, Int.reduceSub, Int.reduceMul, Int.reduceNeg, Int.reduceLT, Int.reduceLE, Int.reduceEq, if_true, if_false, not_true_eq_false, not_false_eq_true, zw_0, zp_0_2, zw_1, zw_2, zp_2_5, zw_3, zp_3, zw_4, zp_4, zw_5, zp_5, zw_6, zp_6, zw_7, zp_7, zw_8, zw_9, zp_9_5, zw_10, zp_10, zw_11, zp_11, zw_12, zp_12, zw_13, zp_13, zw_14, zp_14, zw_15, zp_15_5, zw_16, zp_16, zw_17, zp_17, zw_18, zp_18, zw_19, zp_19, zw_20, zp_20, zw_65, zw_66, zp_66_5, zw_67, zp_67, zw_68, zp_68, zw_69, zp_69, zw_70, zp_70, zw_71, zp_71, zw_72, zw_73, zp_73_5, zw_74, zp_74, zw_75, zp_75, zw_76, zp_76, zw_77, zp_77, zw_78, zp_78, zw_79, zp_79_5, zw_80, zp_80, zw_81, zp_81, zw_82, zp_82, zw_83, zp_83, zw_84, zp_84, zw_129, zp_129_1, zw_130, zp_130, zw_131, zp_131_1, zw_132, zp_132, zw_133, zp_133_5, zp_133_6, zp_133_7, zw_134, zp_134, zw_135, zp_135, zw_136, zp_136, zw_137, zw_138, zp_138_1, zw_139, zp_139, zw_140, zp_140_1, zw_141, zp_141, zw_142, zp_142, zw_143, zw_144, zp_144_1, zw_145, zp_145, zw_146, zp_146_4, zw_147, zp_147, zw_148, zp_148, zw_149, zp_149, zw_150, zp_150, zw_151, zw_152, zp_152, zw_153, zp_153_1, zp_153_2, zp_153_3, zw_154, zp_154, zw_155, zp_155_1, zp_155_2, zp_155_3, zw_156, zp_156, zw_157, zp_157_1, zp_157_2, zp_157_3, zw_158, zp_158, zw_159, zp_159_1, zp_159_2, zp_159_3, zw_160, zp_160, zw_161, zp_161_1, zp_161_2, zp_161_3, zw_162, zp_162, zw_163, zp_163_1, zp_163_2, zp_163_3, zw_164, zp_164, yg0_0, yg0_1, yg0_2, yg0_3, yg0_4, yg1_0, yg1_1, yg1_2, yg1_3, yg2_0, yg2_1, yg2_2, yg3_0, yg3_1, yg4_0, yg5_0, yg5_1, yg5_2, yg5_3, yg5_4, yg5_5, yg6_0, yg6_1, yg6_2, yg6_3, yg6_4, yg6_5, yg7_0, yg7_1, yg7_2, yg7_3, yg7_4, yg7_5, yg7_6, yg7_7, yg8_0, yg8_1, yg8_2, yg8_3, yg9_0, yg9_1, yg9_2, yg9_3, yg9_4, yg9_5, yg10_0, yg10_1, yg11_0, yg11_1, yg11_2, yg11_3, yg11_4, yg11_5, yg11_6, yg11_7, yg11_8, yg11_9, yg11_10, yp0_0, yp0_1, yp0_2, yp0_3, yp0_4, yp1_0, yp1_1, yp1_2, yp1_3, yp2_0, yp2_1, yp2_2, yp3_0, yp3_1, yp4_0, yp5_0, yp5_1, yp5_2, yp5_3, yp5_4, yp5_5, yp6_0, yp6_1, yp6_2, yp6_3, yp6_4, yp6_5, yp7_0, yp7_1, yp7_2, yp7_3, yp7_4, yp7_5, yp7_6, yp7_7, yp8_0, yp8_1, yp8_2, yp8_3, yp9_0, yp9_1, yp9_2, yp9_3, yp9_4, yp9_5, yp10_0, yp10_1, yp11_0, yp11_1, yp11_2, yp11_3, yp11_4, yp11_5, yp11_6, yp11_7, yp11_8, yp11_9, yp11_10, tX11_isBlend, tX11_isWithin]))
      · rw [qX12_make rfl]
        repeat' (first | rfl | (exfalso; first | omega | contradiction) | split | (rw [zruns_N 400]; simp (disch := first | assumption | omega | decide | ((simp (disch := omega) only [zup_ne, zup_eq]); first | assumption | omega)) only [sX12_make_0, sX12_make_1, sX12_make_4, sX12_make_7, sX12_make_8, sX12_make_9, sX12_make_10, sX12_make_11, sX12_make_13, sX12_make_16, sX12_make_19, sX12_make_21, zkp_i, zkp_a, zkp_f, zkp_l, zkp_d, zkp_n, ycl_eq, zI_add, zI_sub, zI_mul, zI_neg, zI_inj, zI_lt, zI_le, zI_eq0, zI_lt0, zI_gt0, zI_le0, zI_ge0, yil_ok, yll_ok, yfl_ok, yis_ok, yls_ok, yfs_ok, y0_s, y1_s, ybo_ok, zset_w, zruns_if, zui_eq, zus_eq, zup_eq, Int.reduceAdd, Int.reduceSub, Int.reduceMul, Int.reduceNeg, Int.reduceLT, Int.reduceLE, Int.reduceEq, if_true, if_false, not_true_eq_false, not_false_eq_true, zw_165, zp_165_2, zp_165_9, zp_165_10, zp_165_11, zp_165_12, zp_165_13, zp_165_14, zw_166, zp_166, zw_167, zp_167, zw_168, zp_168, zw_169, zp_169, zw_170, zp_170, zw_171, zp_171, zw_172, zp_172, zw_173, zp_173, zw_174, zp_174, zw_175, zp_175, zw_176, zp_176, zw_177, zp_177, zw_178, zp_178, zw_179, zp_179, yg12_0, yg12_1, yg12_2, yg12_3, yg12_4, yg12_5, yg12_6, yg12_7, yg12_8, yg12_9, yg12_10, yg12_11, yg12_12, yg12_13, yg12_14, yg12_15, yg12_16, yg12_17, yg12_18, yg12_19, yg12_20, yp12_0, yp12_1, yp12_2, yp12_3, yp12_4, yp12_5, yp12_6, yp12_7, yp12_8, yp12_9, yp12_10, yp12_11, yp12_12, yp12_13, yp12_14, yp12_15, yp12_16, yp12_17, yp12_18, yp12_19, yp12_20, tX12_isBlend, tX12_isIn]))
  · refine zOK_r (.int (zI (-1))) H (fun z => ?_) (fun z => ?_)
    · rw [qX11_make rfl]
      repeat' (first | rfl | (exfalso; first | omega | contradiction) | split | (rw [zruns_N 400]; simp (disch := first | assumption | omega | decide | ((simp (disch := omega) only [zup_ne, zup_eq]); first | assumption | omega)) only [sX11_make_0, sX11_make_1, sX11_make_4, sX11_make_7, sX11_make_8, sX11_make_9, sX11_make_10, sX11_make_11, sX11_make_13, sX11_make_16, sX11_make_19, sX11_make_21, zkp_i, zkp_a, zkp_f, zkp_l, zkp_d, zkp_n, ycl_eq, zI_add, zI_sub, zI_mul, zI_neg, zI_inj, zI_lt, zI_le, zI_eq0, zI_lt0, zI_gt0, zI_le0, zI_ge0, yil_ok, yll_ok, yfl_ok, yis_ok, yls_ok, yfs_ok, y0_s, y1_s, ybo_ok, zset_w, zruns_if, zui_eq, zus_eq, zup_eq, Int.reduceAdd, Int.reduceSub, Int.reduceMul, Int.reduceNeg, Int.reduceLT, Int.reduceLE, Int.reduceEq, if_true, if_false, not_true_eq_false, not_false_eq_true, zw_0, zp_0_2, zw_1, zw_2, zp_2_5, zw_3, zp_3, zw_4, zp_4, zw_5, zp_5, zw_6, zp_6, zw_7, zp_7, zw_8, zw_9, zp_9_5, zw_10, zp_10, zw_11, zp_11, zw_12, zp_12, zw_13, zp_13, zw_14, zp_14, zw_15, zp_15_5, zw_16, zp_16, zw_17, zp_17, zw_18, zp_18, zw_19, zp_19, zw_20, zp_20, zw_65, zw_66, zp_66_5, zw_67, zp_67, zw_68, zp_68, zw_69, zp_69, zw_70, zp_70, zw_71, zp_71, zw_72, zw_73, zp_73_5, zw_74, zp_74, zw_75, zp_75, zw_76, zp_76, zw_77, zp_77, zw_78, zp_78, zw_79, zp_79_5, zw_80, zp_80, zw_81, zp_81, zw_82, zp_82, zw_83, zp_83, zw_84, zp_84, zw_129, zp_129_1, zw_130, zp_130, zw_131, zp_131_1, zw_132, zp_132, zw_133, zp_133_5, zp_133_6, zp_133_7, zw_134, zp_134, zw_135, zp_135, zw_136, zp_136, zw_137, zw_138, zp_138_1, zw_139, zp_139, zw_140, zp_140_1, zw_141, zp_141, zw_142, zp_142, zw_143, zw_144, zp_144_1, zw_145, zp_145, zw_146, zp_146_4, zw_147, zp_147, zw_148, zp_148, zw_149, zp_149, zw_150, zp_150, zw_151, zw_152, zp_152, zw_153, zp_153_1, zp_153_2, zp_153_3, zw_154, zp_154, zw_155, zp_155_1, zp_155_2, zp_155_3, zw_156, zp_156, zw_157, zp_157_1, zp_157_2, zp_157_3, zw_158, zp_158, zw_159, zp_159_1, zp_159_2, zp_159_3, zw_160, zp_160, zw_161, zp_161_1, zp_161_2, zp_161_3, zw_162, zp_162, zw_163, zp_163_1, zp_163_2, zp_163_3, zw_164, zp_164, yg0_0, yg0_1, yg0_2, yg0_3, yg0_4, yg1_0, yg1_1, yg1_2, yg1_3, yg2_0, yg2_1, yg2_2, yg3_0, yg3_1, yg4_0, yg5_0, yg5_1, yg5_2, yg5_3, yg5_4, yg5_5, yg6_0, yg6_1, yg6_2, yg6_3, yg6_4, yg6_5, yg7_0, yg7_1, yg7_2, yg7_3, yg7_4, yg7_5, yg7_6, yg7_7, yg8_0, yg8_1, yg8_2, yg8_3, yg9_0, yg9_1, yg9_2, yg9_3, yg9_4, yg9_5, yg10_0, yg10_1, yg11_0, yg11_1, yg11_2, yg11_3, yg11_4, yg11_5, yg11_6, yg11_7, yg11_8, yg11_9, yg11_10, yp0_0, yp0_1, yp0_2, yp0_3, yp0_4, yp1_0, yp1_1, yp1_2, yp1_3, yp2_0, yp2_1, yp2_2, yp3_0, yp3_1, yp4_0, yp5_0, yp5_1, yp5_2, yp5_3, yp5_4, yp5_5, yp6_0, yp6_1, yp6_2, yp6_3, yp6_4, yp6_5, yp7_0, yp7_1, yp7_2, yp7_3, yp7_4, yp7_5, yp7_6, yp7_7, yp8_0, yp8_1, yp8_2, yp8_3, yp9_0, yp9_1, yp9_2, yp9_3, yp9_4, yp9_5, yp10_0, yp10_1, yp11_0, yp11_1, yp11_2, yp11_3, yp11_4, yp11_5, yp11_6, yp11_7, yp11_8, yp11_9, yp11_10, tX11_isBlend, tX11_isWithin]))
    · rw [qX12_make rfl]
      repeat' (first | rfl | (exfalso; first | omega | contradiction) | split | (rw [zruns_N 400]; simp (disch := first | assumption | omega | decide | ((simp (disch := omega) only [zup_ne, zup_eq]); first | assumption | omega)) only [sX12_make_0, sX12_make_1, sX12_make_4, sX12_make_7, sX12_make_8, sX12_make_9, sX12_make_10, sX12_make_11, sX12_make_13, sX12_make_16, sX12_make_19, sX12_make_21, zkp_i, zkp_a, zkp_f, zkp_l, zkp_d, zkp_n, ycl_eq, zI_add, zI_sub, zI_mul, zI_neg, zI_inj, zI_lt, zI_le, zI_eq0, zI_lt0, zI_gt0, zI_le0, zI_ge0, yil_ok, yll_ok, yfl_ok, yis_ok, yls_ok, yfs_ok, y0_s, y1_s, ybo_ok, zset_w, zruns_if, zui_eq, zus_eq, zup_eq, Int.reduceAdd, Int.reduceSub, Int.reduceMul, Int.reduceNeg, Int.reduceLT, Int.reduceLE, Int.reduceEq, if_true, if_false, not_true_eq_false, not_false_eq_true, zw_165, zp_165_2, zp_165_9, zp_165_10, zp_165_11, zp_165_12, zp_165_13, zp_165_14, zw_166, zp_166, zw_167, zp_167, zw_168, zp_168, zw_169, zp_169, zw_170, zp_170, zw_171, zp_171, zw_172, zp_172, zw_173, zp_173, zw_174, zp_174, zw_175, zp_175, zw_176, zp_176, zw_177, zp_177, zw_178, zp_178, zw_179, zp_179, yg12_0, yg12_1, yg12_2, yg12_3, yg12_4, yg12_5, yg12_6, yg12_7, yg12_8, yg12_9, yg12_10, yg12_11, yg12_12, yg12_13, yg12_14, yg12_15, yg12_16, yg12_17, yg12_18, yg12_19, yg12_20, yp12_0, yp12_1, yp12_2, yp12_3, yp12_4, yp12_5, yp12_6, yp12_7, yp12_8, yp12_9, yp12_10, yp12_11, yp12_12, yp12_13, yp12_14, yp12_15, yp12_16, yp12_17, yp12_18, yp12_19, yp12_20, tX12_isBlend, tX12_isIn]))
end MAKE3
