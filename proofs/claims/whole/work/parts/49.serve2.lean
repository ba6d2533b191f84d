/-! ===== serve, the whole ===== -/
section SERVE2
variable {d b : Nat} {z : Nat × Nat} {σ : Nat → Nat → Int} {α lo : Nat → Int → Int} {φ : Nat → Int → UInt32}
theorem zsr_skip {o c M : Nat} {v u : Int} (h2 : α 166 2 = c) (ho : o < c ∧ c ≤ 30) (hz : ∀ j, zr (α 166 j)) (hu : 0 ≤ u ∧ u ≤ 9) (h : α 166 (1430 + 4 * o + 3) ≠ 0 ∨ α 166 (1430 + 4 * o + 2) ≠ u) : zruns (zcall (M + 5)) 12 1 cX12_serve (11, [some (.ref (b + 165)), some (.int (zI v)), some (.int (zI u)), some (.int (zI o))], [], (z, zw b σ α lo φ)) = zruns (zcall (M + 5)) 12 1 cX12_serve (11, [some (.ref (b + 165)), some (.int (zI v)), some (.int (zI u)), some (.int (zI ((o + 1 : Nat) : Int)))], [], (z, zw b σ α lo φ)) := by
  have h3 := hz (1430 + 4 * o + 3)
  have h4 := hz (1430 + 4 * o + 2)
  rw [show ((o + 1 : Nat) : Int) = o + 1 by omega]
  by_cases q : α 166 (1430 + 4 * (o : Int) + 3) = 0
  · have q2 : ¬ α 166 (1430 + 4 * (o : Int) + 2) = u := by
      rcases h with e | e
      · exact absurd q e
      · exact e
    repeat' (first | rfl | (exfalso; first | omega | contradiction) | split | (rw [zruns_N 400]; simp (disch := first | assumption | omega | decide | ((simp (disch := omega) only [zup_ne, zup_eq]); first | assumption | omega)) only [sX12_serve_11, sX12_serve_12, sX12_serve_13, sX12_serve_16, sX12_serve_17, sX12_serve_18, sX12_serve_21, sX12_serve_22, sX12_serve_23, sX12_serve_24, sX12_serve_27, sX12_serve_30, sX12_serve_31, sX12_serve_32, sX12_serve_33, sX12_serve_36, sX12_serve_37, sX12_serve_40, sX12_serve_41, sX12_serve_42, sX12_serve_43, sX12_serve_44, sX12_serve_47, sX12_serve_48, sX12_serve_49, sX12_serve_50, sX12_serve_53, sX12_serve_56, sX12_serve_59, sX12_serve_62, sX12_serve_63, sX12_serve_66, sX12_serve_69, sX12_serve_70, sX12_serve_71, sX12_serve_72, sX12_serve_73, sX12_serve_74, sX12_serve_75, sX12_serve_76, sX12_serve_77, sX12_serve_80, sX12_serve_83, zkp_i, zkp_a, zkp_f, zkp_l, zkp_d, zkp_n, ycl_eq, zI_add, zI_sub, zI_mul, zI_neg, zI_inj, zI_lt, zI_le, zI_eq0, zI_lt0, zI_gt0, zI_le0, zI_ge0, yil_ok, yll_ok, yfl_ok, yis_ok, yls_ok, yfs_ok, y0_s, y1_s, ybo_ok, zset_w, zruns_if, zui_eq, zus_eq, zup_eq, Int.reduceAdd, Int.reduceSub, Int.reduceMul, Int.reduceNeg, Int.reduceLT, Int.reduceLE, Int.reduceEq, if_true, if_false, not_true_eq_false, not_false_eq_true, zw_165, zp_165_2, zp_165_9, zp_165_10, zp_165_11, zp_165_12, zp_165_13, zp_165_14, zw_166, zp_166, zw_167, zp_167, zw_168, zp_168, zw_169, zp_169, zw_170, zp_170, zw_171, zp_171, zw_172, zp_172, zw_173, zp_173, zw_174, zp_174, zw_175, zp_175, zw_176, zp_176, zw_177, zp_177, zw_178, zp_178, zw_179, zp_179, yg12_0, yg12_1, yg12_2, yg12_3, yg12_4, yg12_5, yg12_6, yg12_7, yg12_8, yg12_9, yg12_10, yg12_11, yg12_12, yg12_13, yg12_14, yg12_15, yg12_16, yg12_17, yg12_18, yg12_19, yg12_20, yp12_0, yp12_1, yp12_2, yp12_3, yp12_4, yp12_5, yp12_6, yp12_7, yp12_8, yp12_9, yp12_10, yp12_11, yp12_12, yp12_13, yp12_14, yp12_15, yp12_16, yp12_17, yp12_18, yp12_19, yp12_20, tX12_orderAt, q]))
  · repeat' (first | rfl | (exfalso; first | omega | contradiction) | split | (rw [zruns_N 400]; simp (disch := first | assumption | omega | decide | ((simp (disch := omega) only [zup_ne, zup_eq]); first | assumption | omega)) only [sX12_serve_11, sX12_serve_12, sX12_serve_13, sX12_serve_16, sX12_serve_17, sX12_serve_18, sX12_serve_21, sX12_serve_22, sX12_serve_23, sX12_serve_24, sX12_serve_27, sX12_serve_30, sX12_serve_31, sX12_serve_32, sX12_serve_33, sX12_serve_36, sX12_serve_37, sX12_serve_40, sX12_serve_41, sX12_serve_42, sX12_serve_43, sX12_serve_44, sX12_serve_47, sX12_serve_48, sX12_serve_49, sX12_serve_50, sX12_serve_53, sX12_serve_56, sX12_serve_59, sX12_serve_62, sX12_serve_63, sX12_serve_66, sX12_serve_69, sX12_serve_70, sX12_serve_71, sX12_serve_72, sX12_serve_73, sX12_serve_74, sX12_serve_75, sX12_serve_76, sX12_serve_77, sX12_serve_80, sX12_serve_83, zkp_i, zkp_a, zkp_f, zkp_l, zkp_d, zkp_n, ycl_eq, zI_add, zI_sub, zI_mul, zI_neg, zI_inj, zI_lt, zI_le, zI_eq0, zI_lt0, zI_gt0, zI_le0, zI_ge0, yil_ok, yll_ok, yfl_ok, yis_ok, yls_ok, yfs_ok, y0_s, y1_s, ybo_ok, zset_w, zruns_if, zui_eq, zus_eq, zup_eq, Int.reduceAdd, Int.reduceSub, Int.reduceMul, Int.reduceNeg, Int.reduceLT, Int.reduceLE, Int.reduceEq, if_true, if_false, not_true_eq_false, not_false_eq_true, zw_165, zp_165_2, zp_165_9, zp_165_10, zp_165_11, zp_165_12, zp_165_13, zp_165_14, zw_166, zp_166, zw_167, zp_167, zw_168, zp_168, zw_169, zp_169, zw_170, zp_170, zw_171, zp_171, zw_172, zp_172, zw_173, zp_173, zw_174, zp_174, zw_175, zp_175, zw_176, zp_176, zw_177, zp_177, zw_178, zp_178, zw_179, zp_179, yg12_0, yg12_1, yg12_2, yg12_3, yg12_4, yg12_5, yg12_6, yg12_7, yg12_8, yg12_9, yg12_10, yg12_11, yg12_12, yg12_13, yg12_14, yg12_15, yg12_16, yg12_17, yg12_18, yg12_19, yg12_20, yp12_0, yp12_1, yp12_2, yp12_3, yp12_4, yp12_5, yp12_6, yp12_7, yp12_8, yp12_9, yp12_10, yp12_11, yp12_12, yp12_13, yp12_14, yp12_15, yp12_16, yp12_17, yp12_18, yp12_19, yp12_20, tX12_orderAt]))
theorem zsr_hit {o c M : Nat} {u : Int} {σN : Nat → Nat → Int} {αN : Nat → Int → Int} {X : Int × (Nat → Nat → Int) × (Nat → Int → Int)} (H : zQR X.2.1 X.2.2 lo) (hcc : X.2.1 2 5 = c) (hc : c ≤ 40) (ho : (o : Int) < X.2.1 15 5) (hV : X.2.2 19 o = 0) (hU : X.2.2 18 o = u) (hv : 0 ≤ X.1 ∧ X.1 ≤ 30) : zruns (zcall (M + 5)) 12 1 cX12_serve (11, [some (.ref (b + 165)), some (.int (zI X.1)), some (.int (zI u)), some (.int (zI o))], [], (z, zw b σN (zup αN 166 (X.2.2 166)) lo φ)) = zruns (zcall (M + 5)) 12 1 cX12_serve (11, [some (.ref (b + 165)), some (.int (zI (zsv c o X).1)), some (.int (zI u)), some (.int (zI ((o + 1 : Nat) : Int)))], [], (z, zw b σN (zup αN 166 ((zsv c o X).2.2 166)) lo φ)) := by
  obtain ⟨⟨a1, a2, a3⟩, ⟨b1, b2, b3⟩, ⟨d1, d2, d3⟩, f1, f2, f3⟩ := zQ_order H o (by omega) ho
  obtain ⟨c0, c1, c2, c3, c4, c5⟩ := zQ_cnt H
  have hz6 := zQR_rng H 166
  obtain ⟨k, hk⟩ := Int.eq_ofNat_of_zero_le a2
  have k16 : k < 16 := by omega
  have hD := zQR_mix H (k := k) (by omega)
  have hA := zRD_A hD
  have hN := zQ_note H
  have hS := zQ_stock H
  have hL := zQ_limit H
  rw [hcc] at hN hS hD c0
  rw [hk] at a1
  rw [hV] at f1
  rw [hU] at d1
  have hkt : (X.2.2 16 o).toNat = k := by omega
  obtain ⟨S, hSe⟩ : ∃ S, S = X.2.2 166 := ⟨_, rfl⟩
  rw [← hSe] at a1 b1 d1 f1 hz6 hD hN hS hL c0 c1 c2
  have e : zup αN 166 S 166 = S := zup_eq
  have o0 : S (1430 + 4 * o + 0) = k := by rw [Int.add_zero]; exact a1.symm
  have u1 := zmul_b hA (y := X.2.2 17 o) (q := 99) (by omega)
  rw [show ((o + 1 : Nat) : Int) = o + 1 by omega]
  unfold zsv
  by_cases h : zcb X.2.1 X.2.2 (X.2.2 16 o).toNat (X.2.2 17 o) c = true
  · rw [if_pos h]
    have hcan := zcb_iff.1 h
    rw [hkt] at hcan ⊢
    dsimp only
    rw [zup_eq (k := 166), ← hSe]
    have hmk := fun (d : Nat) (z : Nat × Nat) => tX12_make_yes (d := d) (b := b) (z := z) (σ := σN) (α := zup αN 166 S) (lo := lo) (φ := φ) (k := k) (c := c) (n := X.2.2 17 o) (m := X.2.1 9 5) k16 ⟨b2, b3⟩ (by rw [e]; exact c0) hc (by rw [e]; exact hN) (by rw [e]; exact hD) (by rw [e]; exact hL) (by rw [e]; exact hS) (by rw [e]; exact hz6) (by rw [e]; exact c1) c4 hcan
    rw [e, zup_up, b1] at hmk
    rw [b1] at u1 ⊢
    rw [show X.2.1 (8 + 13 + 2 * k) 1 * S (1430 + 4 * o + 1) = X.2.1 (8 + 13 + 2 * k) 1 * S (1430 + 4 * (o : Int) + 1) from rfl] at hmk
    repeat' (first | rfl | (exfalso; first | omega | contradiction) | split | (rw [zruns_N 400]; simp (disch := first | assumption | omega | decide | ((simp (disch := omega) only [zup_ne, zup_eq]); first | assumption | omega)) only [sX12_serve_11, sX12_serve_12, sX12_serve_13, sX12_serve_16, sX12_serve_17, sX12_serve_18, sX12_serve_21, sX12_serve_22, sX12_serve_23, sX12_serve_24, sX12_serve_27, sX12_serve_30, sX12_serve_31, sX12_serve_32, sX12_serve_33, sX12_serve_36, sX12_serve_37, sX12_serve_40, sX12_serve_41, sX12_serve_42, sX12_serve_43, sX12_serve_44, sX12_serve_47, sX12_serve_48, sX12_serve_49, sX12_serve_50, sX12_serve_53, sX12_serve_56, sX12_serve_59, sX12_serve_62, sX12_serve_63, sX12_serve_66, sX12_serve_69, sX12_serve_70, sX12_serve_71, sX12_serve_72, sX12_serve_73, sX12_serve_74, sX12_serve_75, sX12_serve_76, sX12_serve_77, sX12_serve_80, sX12_serve_83, zkp_i, zkp_a, zkp_f, zkp_l, zkp_d, zkp_n, ycl_eq, zI_add, zI_sub, zI_mul, zI_neg, zI_inj, zI_lt, zI_le, zI_eq0, zI_lt0, zI_gt0, zI_le0, zI_ge0, yil_ok, yll_ok, yfl_ok, yis_ok, yls_ok, yfs_ok, y0_s, y1_s, ybo_ok, zset_w, zruns_if, zui_eq, zus_eq, zup_eq, Int.reduceAdd, Int.reduceSub, Int.reduceMul, Int.reduceNeg, Int.reduceLT, Int.reduceLE, Int.reduceEq, if_true, if_false, not_true_eq_false, not_false_eq_true, zw_165, zp_165_2, zp_165_9, zp_165_10, zp_165_11, zp_165_12, zp_165_13, zp_165_14, zw_166, zp_166, zw_167, zp_167, zw_168, zp_168, zw_169, zp_169, zw_170, zp_170, zw_171, zp_171, zw_172, zp_172, zw_173, zp_173, zw_174, zp_174, zw_175, zp_175, zw_176, zp_176, zw_177, zp_177, zw_178, zp_178, zw_179, zp_179, yg12_0, yg12_1, yg12_2, yg12_3, yg12_4, yg12_5, yg12_6, yg12_7, yg12_8, yg12_9, yg12_10, yg12_11, yg12_12, yg12_13, yg12_14, yg12_15, yg12_16, yg12_17, yg12_18, yg12_19, yg12_20, yp12_0, yp12_1, yp12_2, yp12_3, yp12_4, yp12_5, yp12_6, yp12_7, yp12_8, yp12_9, yp12_10, yp12_11, yp12_12, yp12_13, yp12_14, yp12_15, yp12_16, yp12_17, yp12_18, yp12_19, yp12_20, tX12_orderAt, e, c2, f1.symm, d1.symm, o0, hmk, zup_up]))
  · rw [if_neg h, ← hSe]
    have hcan := fun q => h (zcb_iff.2 q)
    rw [hkt] at hcan
    have hmk := fun (d : Nat) (z : Nat × Nat) => tX12_make_no (d := d) (b := b) (z := z) (σ := σN) (α := zup αN 166 S) (lo := lo) (φ := φ) (k := k) (c := c) (n := X.2.2 17 o) k16 ⟨b2, b3⟩ (by rw [e]; exact c0) hc (by rw [e]; exact hN) (by rw [e]; exact hD) (by rw [e]; exact hL) (by rw [e]; exact hS) (by rw [e]; exact hz6) hcan
    rw [b1] at hmk
    repeat' (first | rfl | (exfalso; first | omega | contradiction) | split | (rw [zruns_N 400]; simp (disch := first | assumption | omega | decide | ((simp (disch := omega) only [zup_ne, zup_eq]); first | assumption | omega)) only [sX12_serve_11, sX12_serve_12, sX12_serve_13, sX12_serve_16, sX12_serve_17, sX12_serve_18, sX12_serve_21, sX12_serve_22, sX12_serve_23, sX12_serve_24, sX12_serve_27, sX12_serve_30, sX12_serve_31, sX12_serve_32, sX12_serve_33, sX12_serve_36, sX12_serve_37, sX12_serve_40, sX12_serve_41, sX12_serve_42, sX12_serve_43, sX12_serve_44, sX12_serve_47, sX12_serve_48, sX12_serve_49, sX12_serve_50, sX12_serve_53, sX12_serve_56, sX12_serve_59, sX12_serve_62, sX12_serve_63, sX12_serve_66, sX12_serve_69, sX12_serve_70, sX12_serve_71, sX12_serve_72, sX12_serve_73, sX12_serve_74, sX12_serve_75, sX12_serve_76, sX12_serve_77, sX12_serve_80, sX12_serve_83, zkp_i, zkp_a, zkp_f, zkp_l, zkp_d, zkp_n, ycl_eq, zI_add, zI_sub, zI_mul, zI_neg, zI_inj, zI_lt, zI_le, zI_eq0, zI_lt0, zI_gt0, zI_le0, zI_ge0, yil_ok, yll_ok, yfl_ok, yis_ok, yls_ok, yfs_ok, y0_s, y1_s, ybo_ok, zset_w, zruns_if, zui_eq, zus_eq, zup_eq, Int.reduceAdd, Int.reduceSub, Int.reduceMul, Int.reduceNeg, Int.reduceLT, Int.reduceLE, Int.reduceEq, if_true, if_false, not_true_eq_false, not_false_eq_true, zw_165, zp_165_2, zp_165_9, zp_165_10, zp_165_11, zp_165_12, zp_165_13, zp_165_14, zw_166, zp_166, zw_167, zp_167, zw_168, zp_168, zw_169, zp_169, zw_170, zp_170, zw_171, zp_171, zw_172, zp_172, zw_173, zp_173, zw_174, zp_174, zw_175, zp_175, zw_176, zp_176, zw_177, zp_177, zw_178, zp_178, zw_179, zp_179, yg12_0, yg12_1, yg12_2, yg12_3, yg12_4, yg12_5, yg12_6, yg12_7, yg12_8, yg12_9, yg12_10, yg12_11, yg12_12, yg12_13, yg12_14, yg12_15, yg12_16, yg12_17, yg12_18, yg12_19, yg12_20, yp12_0, yp12_1, yp12_2, yp12_3, yp12_4, yp12_5, yp12_6, yp12_7, yp12_8, yp12_9, yp12_10, yp12_11, yp12_12, yp12_13, yp12_14, yp12_15, yp12_16, yp12_17, yp12_18, yp12_19, yp12_20, tX12_orderAt, e, c2, f1.symm, d1.symm, o0, hmk]))
theorem oX_serve (H : zQR σ α lo) : zOK d b kX11_serve kX12_serve [] σ α lo φ := by
  obtain ⟨c0, c1, c2, c3, c4, c5⟩ := zQ_cnt H
  have ho := zQ_order H
  obtain ⟨c, hcc⟩ := Int.eq_ofNat_of_zero_le c5.1
  obtain ⟨cn, hcn⟩ := Int.eq_ofNat_of_zero_le c3.1
  have hc30 : c ≤ 30 := by omega
  have hU : ∀ k : Int, 0 ≤ k → k < c → 0 ≤ α 18 k ∧ α 18 k ≤ 9 := fun k a e => by
    have := (ho k a (by omega)).2.2.1
    exact ⟨this.2.1, this.2.2⟩
  have hI := zt2_I (V := α 19) (G := α 20) (fun k a e => (hU k a e).2) 10
  have hzG := zt2_z (U := α 18) (V := α 19) (G := α 20) (c := c) hc30 (zQR_rng H 20) 10
  have hlt : ∀ d z, zcall (d + 1) kX6_listInTurn [.ref (b + 15)] (z, zw b σ α lo φ) = some (some (.int (zI (zt2 (α 18) (α 19) c (α 20) 10).1)), (z, zw b σ (zup α 20 (zt2 (α 18) (α 19) c (α 20) 10).2) lo φ)) := fun d z => tX6_listInTurn hcc hc30 hU (zQR_rng H)
  generalize zt2 (α 18) (α 19) c (α 20) 10 = s at *
  obtain ⟨N0, G⟩ := s
  have hI1 : N0 = zct (α 18) (α 19) c (-1) 0 := hI.1
  have hI2 : ∀ x : Int, 0 ≤ x → x < N0 → ∃ k : Nat, k < c ∧ α 19 k = 0 ∧ zct (α 18) (α 19) c (α 18 k) k = x ∧ G x = k := hI.2
  have hzG : ∀ j, zr (G j) := hzG
  have hlt : ∀ d z, zcall (d + 1) kX6_listInTurn [.ref (b + 15)] (z, zw b σ α lo φ) = some (some (.int (zI N0)), (z, zw b σ (zup α 20 G) lo φ)) := hlt
  have hNb := zct_b (U := α 18) (V := α 19) (c := c) (u := -1) (i := 0)
  obtain ⟨N, hN⟩ := Int.eq_ofNat_of_zero_le (show 0 ≤ N0 by omega)
  subst hN
  obtain ⟨α0, hα0⟩ : ∃ α0, α0 = zup α 20 G := ⟨_, rfl⟩
  rw [← hα0] at hlt
  have e0 : ∀ i, i ≠ 20 → α0 i = α i := fun i hi => by rw [hα0, zup_ne hi]
  have e20 : α0 20 = G := by rw [hα0, zup_eq]
  have H0 : zQR σ α0 lo := by
    rw [hα0]
    exact zQR_s H (fun j hj => zup_ne (by unfold zfb at hj; omega)) (fun _ _ _ => rfl) (zr_up (zQR_rng H) hzG)
  obtain ⟨L, hL⟩ : ∃ L : Nat → Nat, L = fun j => (G (j : Nat)).toNat := ⟨_, rfl⟩
  have hLj : ∀ j : Nat, j < N → L j < c ∧ α 19 (L j) = 0 ∧ zct (α 18) (α 19) c (α 18 (L j)) (L j) = j ∧ G j = (L j : Nat) := fun j hj => by
    obtain ⟨k, k1, k2, k3, k4⟩ := hI2 j (by omega) (by omega)
    have : L j = k := by rw [hL]; show (G j).toNat = k; omega
    rw [this]
    exact ⟨k1, k2, k3, k4⟩
  have hX := zsq_ok (c := cn) (L := L) (v := 0) H0 hcn
  have hXj := fun j (hj : j ≤ N) => hX j (fun i hi => by have := (hLj i (by omega)).1; omega)
  obtain ⟨Y, hY⟩ : ∃ Y : Nat → Int × (Nat → Nat → Int) × (Nat → Int → Int), Y = zsq cn L (0, σ, α0) := ⟨_, rfl⟩
  rw [← hY] at hXj
  have hYs : ∀ j, Y (j + 1) = zsv cn (L j) (Y j) := fun j => by rw [hY]; rfl
  have hY0 : Y 0 = (0, σ, α0) := by rw [hY]; rfl
  have hup0 : ∀ A : Nat → Int → Int, A 166 = α0 166 → zup A 166 (α0 166) = A := fun A hA => zup_id hA.symm
  refine ⟨.int (zI (Y N).1), (Y N).2.1, zup (Y N).2.2 166 (α0 166), lo, φ, (Y N).2.1, (Y N).2.2, lo, φ, fun z => ?_, fun z => ?_, (hXj N (Nat.le_refl _)).1⟩
  · have hso : ∀ d z, zcall (d + 4) kX1_serveOrders [.ref (b + 1)] (z, zw b σ α lo φ) = some (some (.int (zI (Y N).1)), (z, zw b (Y N).2.1 (zup (Y N).2.2 166 (α0 166)) lo φ)) := fun d z => by
      rw [qX1_serveOrders rfl]
      rw [zruns_N 400]
      simp (disch := first | assumption | omega | decide | ((simp (disch := omega) only [zup_ne, zup_eq]); first | assumption | omega)) only [sX1_serveOrders_0, sX1_serveOrders_1, sX1_serveOrders_2, sX1_serveOrders_3, sX1_serveOrders_6, sX1_serveOrders_9, sX1_serveOrders_10, sX1_serveOrders_11, zkp_i, zkp_a, zkp_f, zkp_l, zkp_d, zkp_n, ycl_eq, zI_add, zI_sub, zI_mul, zI_neg, zI_inj, zI_lt, zI_le, zI_eq0, zI_lt0, zI_gt0, zI_le0, zI_ge0, yil_ok, yll_ok, yfl_ok, yis_ok, yls_ok, yfs_ok, y0_s, y1_s, ybo_ok, zset_w, zruns_if, zui_eq, zus_eq, zup_eq, Int.reduceAdd, Int.reduceSub, Int.reduceMul, Int.reduceNeg, Int.reduceLT, Int.reduceLE, Int.reduceEq, if_true, if_false, not_true_eq_false, not_false_eq_true, zw_0, zp_0_2, zw_1, zw_2, zp_2_5, zw_3, zp_3, zw_4, zp_4, zw_5, zp_5, zw_6, zp_6, zw_7, zp_7, zw_8, zw_9, zp_9_5, zw_10, zp_10, zw_11, zp_11, zw_12, zp_12, zw_13, zp_13, zw_14, zp_14, zw_15, zp_15_5, zw_16, zp_16, zw_17, zp_17, zw_18, zp_18, zw_19, zp_19, zw_20, zp_20, zw_65, zw_66, zp_66_5, zw_67, zp_67, zw_68, zp_68, zw_69, zp_69, zw_70, zp_70, zw_71, zp_71, zw_72, zw_73, zp_73_5, zw_74, zp_74, zw_75, zp_75, zw_76, zp_76, zw_77, zp_77, zw_78, zp_78, zw_79, zp_79_5, zw_80, zp_80, zw_81, zp_81, zw_82, zp_82, zw_83, zp_83, zw_84, zp_84, zw_129, zp_129_1, zw_130, zp_130, zw_131, zp_131_1, zw_132, zp_132, zw_133, zp_133_5, zp_133_6, zp_133_7, zw_134, zp_134, zw_135, zp_135, zw_136, zp_136, zw_137, zw_138, zp_138_1, zw_139, zp_139, zw_140, zp_140_1, zw_141, zp_141, zw_142, zp_142, zw_143, zw_144, zp_144_1, zw_145, zp_145, zw_146, zp_146_4, zw_147, zp_147, zw_148, zp_148, zw_149, zp_149, zw_150, zp_150, zw_151, zw_152, zp_152, zw_153, zp_153_1, zp_153_2, zp_153_3, zw_154, zp_154, zw_155, zp_155_1, zp_155_2, zp_155_3, zw_156, zp_156, zw_157, zp_157_1, zp_157_2, zp_157_3, zw_158, zp_158, zw_159, zp_159_1, zp_159_2, zp_159_3, zw_160, zp_160, zw_161, zp_161_1, zp_161_2, zp_161_3, zw_162, zp_162, zw_163, zp_163_1, zp_163_2, zp_163_3, zw_164, zp_164, yg0_0, yg0_1, yg0_2, yg0_3, yg0_4, yg1_0, yg1_1, yg1_2, yg1_3, yg2_0, yg2_1, yg2_2, yg3_0, yg3_1, yg4_0, yg5_0, yg5_1, yg5_2, yg5_3, yg5_4, yg5_5, yg6_0, yg6_1, yg6_2, yg6_3, yg6_4, yg6_5, yg7_0, yg7_1, yg7_2, yg7_3, yg7_4, yg7_5, yg7_6, yg7_7, yg8_0, yg8_1, yg8_2, yg8_3, yg9_0, yg9_1, yg9_2, yg9_3, yg9_4, yg9_5, yg10_0, yg10_1, yg11_0, yg11_1, yg11_2, yg11_3, yg11_4, yg11_5, yg11_6, yg11_7, yg11_8, yg11_9, yg11_10, yp0_0, yp0_1, yp0_2, yp0_3, yp0_4, yp1_0, yp1_1, yp1_2, yp1_3, yp2_0, yp2_1, yp2_2, yp3_0, yp3_1, yp4_0, yp5_0, yp5_1, yp5_2, yp5_3, yp5_4, yp5_5, yp6_0, yp6_1, yp6_2, yp6_3, yp6_4, yp6_5, yp7_0, yp7_1, yp7_2, yp7_3, yp7_4, yp7_5, yp7_6, yp7_7, yp8_0, yp8_1, yp8_2, yp8_3, yp9_0, yp9_1, yp9_2, yp9_3, yp9_4, yp9_5, yp10_0, yp10_1, yp11_0, yp11_1, yp11_2, yp11_3, yp11_4, yp11_5, yp11_6, yp11_7, yp11_8, yp11_9, yp11_10, hlt]
      rw [← zruns_N]
      refine Eq.trans ?_ (zloopj (run := zruns (zcall (d + 3)) 1 1 cX1_serveOrders) (fun j (l : Option Value × Option Value) => (12, [some (.ref (b + 1)), some (.int (zI (Y j).1)), some (.int (zI (N : Int))), some (.int (zI j)), l.1, l.2], [], (z, zw b (Y j).2.1 (zup (Y j).2.2 166 (α0 166)) lo φ))) N (fun j l hj => ?_) (fun l => ?_) (none, none))
      · rw [hY0]
        dsimp only
        rw [hup0 α0 rfl]
        rfl
      · obtain ⟨x1, x2, x3, x4⟩ := hXj j (by omega)
        obtain ⟨l1, l2, l3, l4⟩ := hLj j hj
        obtain ⟨m4, m5, e⟩ := zsv_run (b := b) (z := z) (φ := φ) (c := cn) (o := L j) (S0 := α0 166) (X := Y j) (M := d) (N := N) (j := j) (l4 := l.1) (l5 := l.2) x1 (by rw [x2.2 2 5 (by decide)]; exact hcn) (by omega) (by rw [x2.2 15 5 (by decide)]; omega) (zQR_rng H0 166) (by omega) (by rw [x2.1 20 (by decide), e20]; exact l4) (by omega)
        exact ⟨(m4, m5), by rw [hYs]; exact e⟩
      · repeat' (first | rfl | (exfalso; first | omega | contradiction) | split | (rw [zruns_N 400]; simp (disch := first | assumption | omega | decide | ((simp (disch := omega) only [zup_ne, zup_eq]); first | assumption | omega)) only [sX1_serveOrders_12, sX1_serveOrders_13, sX1_serveOrders_14, sX1_serveOrders_17, sX1_serveOrders_18, sX1_serveOrders_21, sX1_serveOrders_24, sX1_serveOrders_25, sX1_serveOrders_26, sX1_serveOrders_28, sX1_serveOrders_29, sX1_serveOrders_32, sX1_serveOrders_35, sX1_serveOrders_37, sX1_serveOrders_38, sX1_serveOrders_40, sX1_serveOrders_41, sX1_serveOrders_43, sX1_serveOrders_44, sX1_serveOrders_47, sX1_serveOrders_50, sX1_serveOrders_52, sX1_serveOrders_53, sX1_serveOrders_56, sX1_serveOrders_59, sX1_serveOrders_60, sX1_serveOrders_63, sX1_serveOrders_65, sX1_serveOrders_66, sX1_serveOrders_69, sX1_serveOrders_72, sX1_serveOrders_74, sX1_serveOrders_75, sX1_serveOrders_76, sX1_serveOrders_79, sX1_serveOrders_81, sX1_serveOrders_82, sX1_serveOrders_85, sX1_serveOrders_86, sX1_serveOrders_87, sX1_serveOrders_90, sX1_serveOrders_93, sX1_serveOrders_95, sX1_serveOrders_96, sX1_serveOrders_97, sX1_serveOrders_100, sX1_serveOrders_103, sX1_serveOrders_106, sX1_serveOrders_107, zkp_i, zkp_a, zkp_f, zkp_l, zkp_d, zkp_n, ycl_eq, zI_add, zI_sub, zI_mul, zI_neg, zI_inj, zI_lt, zI_le, zI_eq0, zI_lt0, zI_gt0, zI_le0, zI_ge0, yil_ok, yll_ok, yfl_ok, yis_ok, yls_ok, yfs_ok, y0_s, y1_s, ybo_ok, zset_w, zruns_if, zui_eq, zus_eq, zup_eq, Int.reduceAdd, Int.reduceSub, Int.reduceMul, Int.reduceNeg, Int.reduceLT, Int.reduceLE, Int.reduceEq, if_true, if_false, not_true_eq_false, not_false_eq_true, zw_0, zp_0_2, zw_1, zw_2, zp_2_5, zw_3, zp_3, zw_4, zp_4, zw_5, zp_5, zw_6, zp_6, zw_7, zp_7, zw_8, zw_9, zp_9_5, zw_10, zp_10, zw_11, zp_11, zw_12, zp_12, zw_13, zp_13, zw_14, zp_14, zw_15, zp_15_5, zw_16, zp_16, zw_17, zp_17, zw_18, zp_18, zw_19, zp_19, zw_20, zp_20, zw_65, zw_66, zp_66_5, zw_67, zp_67, zw_68, zp_68, zw_69, zp_69, zw_70, zp_70, zw_71, zp_71, zw_72, zw_73, zp_73_5, zw_74, zp_74, zw_75, zp_75, zw_76, zp_76, zw_77, zp_77, zw_78, zp_78, zw_79, zp_79_5, zw_80, zp_80, zw_81, zp_81, zw_82, zp_82, zw_83, zp_83, zw_84, zp_84, zw_129, zp_129_1, zw_130, zp_130, zw_131, zp_131_1, zw_132, zp_132, zw_133, zp_133_5, zp_133_6, zp_133_7, zw_134, zp_134, zw_135, zp_135, zw_136, zp_136, zw_137, zw_138, zp_138_1, zw_139, zp_139, zw_140, zp_140_1, zw_141, zp_141, zw_142, zp_142, zw_143, zw_144, zp_144_1, zw_145, zp_145, zw_146, zp_146_4, zw_147, zp_147, zw_148, zp_148, zw_149, zp_149, zw_150, zp_150, zw_151, zw_152, zp_152, zw_153, zp_153_1, zp_153_2, zp_153_3, zw_154, zp_154, zw_155, zp_155_1, zp_155_2, zp_155_3, zw_156, zp_156, zw_157, zp_157_1, zp_157_2, zp_157_3, zw_158, zp_158, zw_159, zp_159_1, zp_159_2, zp_159_3, zw_160, zp_160, zw_161, zp_161_1, zp_161_2, zp_161_3, zw_162, zp_162, zw_163, zp_163_1, zp_163_2, zp_163_3, zw_164, zp_164, yg0_0, yg0_1, yg0_2, yg0_3, yg0_4, yg1_0, yg1_1, yg1_2, yg1_3, yg2_0, yg2_1, yg2_2, yg3_0, yg3_1, yg4_0, yg5_0, yg5_1, yg5_2, yg5_3, yg5_4, yg5_5, yg6_0, yg6_1, yg6_2, yg6_3, yg6_4, yg6_5, yg7_0, yg7_1, yg7_2, yg7_3, yg7_4, yg7_5, yg7_6, yg7_7, yg8_0, yg8_1, yg8_2, yg8_3, yg9_0, yg9_1, yg9_2, yg9_3, yg9_4, yg9_5, yg10_0, yg10_1, yg11_0, yg11_1, yg11_2, yg11_3, yg11_4, yg11_5, yg11_6, yg11_7, yg11_8, yg11_9, yg11_10, yp0_0, yp0_1, yp0_2, yp0_3, yp0_4, yp1_0, yp1_1, yp1_2, yp1_3, yp2_0, yp2_1, yp2_2, yp3_0, yp3_1, yp4_0, yp5_0, yp5_1, yp5_2, yp5_3, yp5_4, yp5_5, yp6_0, yp6_1, yp6_2, yp6_3, yp6_4, yp6_5, yp7_0, yp7_1, yp7_2, yp7_3, yp7_4, yp7_5, yp7_6, yp7_7, yp8_0, yp8_1, yp8_2, yp8_3, yp9_0, yp9_1, yp9_2, yp9_3, yp9_4, yp9_5, yp10_0, yp10_1, yp11_0, yp11_1, yp11_2, yp11_3, yp11_4, yp11_5, yp11_6, yp11_7, yp11_8, yp11_9, yp11_10]))
    rw [qX11_serve rfl]
    repeat' (first | rfl | (exfalso; first | omega | contradiction) | split | (rw [zruns_N 400]; simp (disch := first | assumption | omega | decide | ((simp (disch := omega) only [zup_ne, zup_eq]); first | assumption | omega)) only [sX11_serve_0, sX11_serve_1, sX11_serve_4, sX11_serve_7, zkp_i, zkp_a, zkp_f, zkp_l, zkp_d, zkp_n, ycl_eq, zI_add, zI_sub, zI_mul, zI_neg, zI_inj, zI_lt, zI_le, zI_eq0, zI_lt0, zI_gt0, zI_le0, zI_ge0, yil_ok, yll_ok, yfl_ok, yis_ok, yls_ok, yfs_ok, y0_s, y1_s, ybo_ok, zset_w, zruns_if, zui_eq, zus_eq, zup_eq, Int.reduceAdd, Int.reduceSub, Int.reduceMul, Int.reduceNeg, Int.reduceLT, Int.reduceLE, Int.reduceEq, if_true, if_false, not_true_eq_false, not_false_eq_true, zw_0, zp_0_2, zw_1, zw_2, zp_2_5, zw_3, zp_3, zw_4, zp_4, zw_5, zp_5, zw_6, zp_6, zw_7, zp_7, zw_8, zw_9, zp_9_5, zw_10, zp_10, zw_11, zp_11, zw_12, zp_12, zw_13, zp_13, zw_14, zp_14, zw_15, zp_15_5, zw_16, zp_16, zw_17, zp_17, zw_18, zp_18, zw_19, zp_19, zw_20, zp_20, zw_65, zw_66, zp_66_5, zw_67, zp_67, zw_68, zp_68, zw_69, zp_69, zw_70, zp_70, zw_71, zp_71, zw_72, zw_73, zp_73_5, zw_74, zp_74, zw_75, zp_75, zw_76, zp_76, zw_77, zp_77, zw_78, zp_78, zw_79, zp_79_5, zw_80, zp_80, zw_81, zp_81, zw_82, zp_82, zw_83, zp_83, zw_84, zp_84, zw_129, zp_129_1, zw_130, zp_130, zw_131, zp_131_1, zw_132, zp_132, zw_133, zp_133_5, zp_133_6, zp_133_7, zw_134, zp_134, zw_135, zp_135, zw_136, zp_136, zw_137, zw_138, zp_138_1, zw_139, zp_139, zw_140, zp_140_1, zw_141, zp_141, zw_142, zp_142, zw_143, zw_144, zp_144_1, zw_145, zp_145, zw_146, zp_146_4, zw_147, zp_147, zw_148, zp_148, zw_149, zp_149, zw_150, zp_150, zw_151, zw_152, zp_152, zw_153, zp_153_1, zp_153_2, zp_153_3, zw_154, zp_154, zw_155, zp_155_1, zp_155_2, zp_155_3, zw_156, zp_156, zw_157, zp_157_1, zp_157_2, zp_157_3, zw_158, zp_158, zw_159, zp_159_1, zp_159_2, zp_159_3, zw_160, zp_160, zw_161, zp_161_1, zp_161_2, zp_161_3, zw_162, zp_162, zw_163, zp_163_1, zp_163_2, zp_163_3, zw_164, zp_164, yg0_0, yg0_1, yg0_2, yg0_3, yg0_4, yg1_0, yg1_1, yg1_2, yg1_3, yg2_0, yg2_1, yg2_2, yg3_0, yg3_1, yg4_0, yg5_0, yg5_1, yg5_2, yg5_3, yg5_4, yg5_5, yg6_0, yg6_1, yg6_2, yg6_3, yg6_4, yg6_5, yg7_0, yg7_1, yg7_2, yg7_3, yg7_4, yg7_5, yg7_6, yg7_7, yg8_0, yg8_1, yg8_2, yg8_3, yg9_0, yg9_1, yg9_2, yg9_3, yg9_4, yg9_5, yg10_0, yg10_1, yg11_0, yg11_1, yg11_2, yg11_3, yg11_4, yg11_5, yg11_6, yg11_7, yg11_8, yg11_9, yg11_10, yp0_0, yp0_1, yp0_2, yp0_3, yp0_4, yp1_0, yp1_1, yp1_2, yp1_3, yp2_0, yp2_1, yp2_2, yp3_0, yp3_1, yp4_0, yp5_0, yp5_1, yp5_2, yp5_3, yp5_4, yp5_5, yp6_0, yp6_1, yp6_2, yp6_3, yp6_4, yp6_5, yp7_0, yp7_1, yp7_2, yp7_3, yp7_4, yp7_5, yp7_6, yp7_7, yp8_0, yp8_1, yp8_2, yp8_3, yp9_0, yp9_1, yp9_2, yp9_3, yp9_4, yp9_5, yp10_0, yp10_1, yp11_0, yp11_1, yp11_2, yp11_3, yp11_4, yp11_5, yp11_6, yp11_7, yp11_8, yp11_9, yp11_10, hso]))
  · rw [qX12_serve rfl]
    obtain ⟨xN1, xN2, xN3, xN4⟩ := hXj N (Nat.le_refl _)
    rw [zruns_N 400]
    simp (disch := first | assumption | omega | decide | ((simp (disch := omega) only [zup_ne, zup_eq]); first | assumption | omega)) only [sX12_serve_0, sX12_serve_1, sX12_serve_2, sX12_serve_4, zkp_i, zkp_a, zkp_f, zkp_l, zkp_d, zkp_n, ycl_eq, zI_add, zI_sub, zI_mul, zI_neg, zI_inj, zI_lt, zI_le, zI_eq0, zI_lt0, zI_gt0, zI_le0, zI_ge0, yil_ok, yll_ok, yfl_ok, yis_ok, yls_ok, yfs_ok, y0_s, y1_s, ybo_ok, zset_w, zruns_if, zui_eq, zus_eq, zup_eq, Int.reduceAdd, Int.reduceSub, Int.reduceMul, Int.reduceNeg, Int.reduceLT, Int.reduceLE, Int.reduceEq, if_true, if_false, not_true_eq_false, not_false_eq_true, zw_165, zp_165_2, zp_165_9, zp_165_10, zp_165_11, zp_165_12, zp_165_13, zp_165_14, zw_166, zp_166, zw_167, zp_167, zw_168, zp_168, zw_169, zp_169, zw_170, zp_170, zw_171, zp_171, zw_172, zp_172, zw_173, zp_173, zw_174, zp_174, zw_175, zp_175, zw_176, zp_176, zw_177, zp_177, zw_178, zp_178, zw_179, zp_179, yg12_0, yg12_1, yg12_2, yg12_3, yg12_4, yg12_5, yg12_6, yg12_7, yg12_8, yg12_9, yg12_10, yg12_11, yg12_12, yg12_13, yg12_14, yg12_15, yg12_16, yg12_17, yg12_18, yg12_19, yg12_20, yp12_0, yp12_1, yp12_2, yp12_3, yp12_4, yp12_5, yp12_6, yp12_7, yp12_8, yp12_9, yp12_10, yp12_11, yp12_12, yp12_13, yp12_14, yp12_15, yp12_16, yp12_17, yp12_18, yp12_19, yp12_20]
    rw [← zruns_N]
    obtain ⟨σN, hσN⟩ : ∃ x, x = (Y N).2.1 := ⟨_, rfl⟩
    obtain ⟨αN, hαN⟩ : ∃ x, x = (Y N).2.2 := ⟨_, rfl⟩
    obtain ⟨J, hJ⟩ : ∃ J : Int → Int → Nat, J = fun u i => (zct (α 18) (α 19) c u i).toNat := ⟨_, rfl⟩
    have hJz : ∀ u i, zct (α 18) (α 19) c u i = (J u i : Nat) := fun u i => by
      have := zct_b (U := α 18) (V := α 19) (c := c) (u := u) (i := i)
      rw [hJ]
      show _ = (((zct (α 18) (α 19) c u i).toNat : Nat) : Int)
      omega
    have hJ0 : J 9 0 = 0 := by
      have := zct_0 (U := α 18) (V := α 19) (c := c) (fun k a e => (hU k a e).2)
      rw [hJz] at this
      omega
    have hJN : J (-1) 0 = N := by
      have := hJz (-1) 0
      omega
    have hJle : ∀ u i, -1 ≤ u → J u i ≤ N ∨ u = -1 := by
      intro u i hu
      by_cases e : u = -1
      · exact Or.inr e
      · left
        have h1 := hJz u i
        have h2 : zct (α 18) (α 19) c u i ≤ zct (α 18) (α 19) c (-1) 0 := by
          unfold zct
          refine zsm_le c (fun k hk => ?_)
          have := hU k (by omega) (by omega)
          by_cases q : α 19 k = 0 ∧ (u < α 18 k ∨ (α 18 k = u ∧ (k : Int) < i))
          · rw [if_pos q, if_pos (by omega)]
            exact Int.le_refl _
          · rw [if_neg q]
            split <;> omega
        omega
    rw [← hσN, ← hαN]
    refine Eq.trans ?_ (zloopj (run := zruns (zcall (d + 19)) 12 1 cX12_serve) (fun k (l : Option Value) => (5, [some (.ref (b + 165)), some (.int (zI (Y (J (9 - (k : Int)) 0)).1)), some (.int (zI (9 - (k : Int)))), l], [], (z, zw b σN (zup αN 166 ((Y (J (9 - (k : Int)) 0)).2.2 166)) lo φ))) 10 (fun k l hk => ?_) (fun l => ?_) none)
    · rw [show (9 : Int) - ((0 : Nat) : Int) = 9 from rfl, hJ0, hY0]
    · refine ⟨some (.int (zI c)), ?_⟩
      rw [zruns_N 400]
      simp (disch := first | assumption | omega | decide | ((simp (disch := omega) only [zup_ne, zup_eq]); first | assumption | omega)) only [sX12_serve_5, sX12_serve_6, zkp_i, zkp_a, zkp_f, zkp_l, zkp_d, zkp_n, ycl_eq, zI_add, zI_sub, zI_mul, zI_neg, zI_inj, zI_lt, zI_le, zI_eq0, zI_lt0, zI_gt0, zI_le0, zI_ge0, yil_ok, yll_ok, yfl_ok, yis_ok, yls_ok, yfs_ok, y0_s, y1_s, ybo_ok, zset_w, zruns_if, zui_eq, zus_eq, zup_eq, Int.reduceAdd, Int.reduceSub, Int.reduceMul, Int.reduceNeg, Int.reduceLT, Int.reduceLE, Int.reduceEq, if_true, if_false, not_true_eq_false, not_false_eq_true, zw_165, zp_165_2, zp_165_9, zp_165_10, zp_165_11, zp_165_12, zp_165_13, zp_165_14, zw_166, zp_166, zw_167, zp_167, zw_168, zp_168, zw_169, zp_169, zw_170, zp_170, zw_171, zp_171, zw_172, zp_172, zw_173, zp_173, zw_174, zp_174, zw_175, zp_175, zw_176, zp_176, zw_177, zp_177, zw_178, zp_178, zw_179, zp_179, yg12_0, yg12_1, yg12_2, yg12_3, yg12_4, yg12_5, yg12_6, yg12_7, yg12_8, yg12_9, yg12_10, yg12_11, yg12_12, yg12_13, yg12_14, yg12_15, yg12_16, yg12_17, yg12_18, yg12_19, yg12_20, yp12_0, yp12_1, yp12_2, yp12_3, yp12_4, yp12_5, yp12_6, yp12_7, yp12_8, yp12_9, yp12_10, yp12_11, yp12_12, yp12_13, yp12_14, yp12_15, yp12_16, yp12_17, yp12_18, yp12_19, yp12_20]
      rw [if_neg (by omega)]
      rw [zruns_N 400]
      simp (disch := first | assumption | omega | decide | ((simp (disch := omega) only [zup_ne, zup_eq]); first | assumption | omega)) only [sX12_serve_9, sX12_serve_10, zkp_i, zkp_a, zkp_f, zkp_l, zkp_d, zkp_n, ycl_eq, zI_add, zI_sub, zI_mul, zI_neg, zI_inj, zI_lt, zI_le, zI_eq0, zI_lt0, zI_gt0, zI_le0, zI_ge0, yil_ok, yll_ok, yfl_ok, yis_ok, yls_ok, yfs_ok, y0_s, y1_s, ybo_ok, zset_w, zruns_if, zui_eq, zus_eq, zup_eq, Int.reduceAdd, Int.reduceSub, Int.reduceMul, Int.reduceNeg, Int.reduceLT, Int.reduceLE, Int.reduceEq, if_true, if_false, not_true_eq_false, not_false_eq_true, zw_165, zp_165_2, zp_165_9, zp_165_10, zp_165_11, zp_165_12, zp_165_13, zp_165_14, zw_166, zp_166, zw_167, zp_167, zw_168, zp_168, zw_169, zp_169, zw_170, zp_170, zw_171, zp_171, zw_172, zp_172, zw_173, zp_173, zw_174, zp_174, zw_175, zp_175, zw_176, zp_176, zw_177, zp_177, zw_178, zp_178, zw_179, zp_179, yg12_0, yg12_1, yg12_2, yg12_3, yg12_4, yg12_5, yg12_6, yg12_7, yg12_8, yg12_9, yg12_10, yg12_11, yg12_12, yg12_13, yg12_14, yg12_15, yg12_16, yg12_17, yg12_18, yg12_19, yg12_20, yp12_0, yp12_1, yp12_2, yp12_3, yp12_4, yp12_5, yp12_6, yp12_7, yp12_8, yp12_9, yp12_10, yp12_11, yp12_12, yp12_13, yp12_14, yp12_15, yp12_16, yp12_17, yp12_18, yp12_19, yp12_20]
      rw [← zruns_N]
      refine zloop (run := zruns (zcall (d + 19)) 12 1 cX12_serve) (fun i => (11, [some (.ref (b + 165)), some (.int (zI (Y (J (9 - (k : Int)) i)).1)), some (.int (zI (9 - (k : Int)))), some (.int (zI i))], [], (z, zw b σN (zup αN 166 ((Y (J (9 - (k : Int)) i)).2.2 166)) lo φ))) c (fun i hi => ?_) ?_
      · have hjn : J (9 - (k : Int)) i ≤ N := by
          rcases hJle (9 - (k : Int)) i (by omega) with q | q
          · exact q
          · omega
        obtain ⟨x1, x2, x3, x4⟩ := hXj _ hjn
        have y2 := (zQ_cnt x1).2.2.1
        rw [x2.2 15 5 (by decide), hcc] at y2
        obtain ⟨_, _, ⟨d1, _⟩, f1, _⟩ := zQ_order x1 i (by omega) (by rw [x2.2 15 5 (by decide)]; omega)
        have hU' : (Y (J (9 - (k : Int)) i)).2.2 18 i = α 18 i := by rw [x2.1 18 (by decide), e0 18 (by decide)]
        by_cases q : α 19 i = 0 ∧ α 18 i = 9 - k
        · have hlt2 : J (9 - (k : Int)) i < N := by
            have h1 := zct_hit (U := α 18) (V := α 19) (c := c) hi q
            have h2 := hJz (9 - (k : Int)) ((i : Int) + 1)
            have h3 := hJz (9 - (k : Int)) i
            rcases hJle (9 - (k : Int)) ((i : Int) + 1) (by omega) with w | w
            · omega
            · omega
          obtain ⟨l1, l2, l3, l4⟩ := hLj _ hlt2
          have hLi : L (J (9 - (k : Int)) i) = i := by
            refine zct_inj (U := α 18) (V := α 19) (c := c) l1 hi l2 q.1 ?_
            rw [l3, q.2, hJz]
          have hnext : J (9 - (k : Int)) ((i + 1 : Nat) : Int) = J (9 - (k : Int)) i + 1 := by
            have h1 := zct_hit (U := α 18) (V := α 19) (c := c) hi q
            rw [hJz, hJz] at h1
            rw [show ((i + 1 : Nat) : Int) = (i : Int) + 1 by omega]
            omega
          have hV' : (Y (J (9 - (k : Int)) i)).2.2 19 i = 0 := by
            rw [x3 i (fun j hj e => by
              have h1 := (hLj j (by omega)).2.2.1
              rw [e] at h1
              rw [hLi] at l3
              omega), e0 19 (by decide)]
            exact q.1
          have e := zsr_hit (b := b) (z := z) (φ := φ) (M := d + 14) (o := i) (c := cn) (u := 9 - k) (σN := σN) (αN := αN) (X := Y (J (9 - (k : Int)) i)) x1 (by rw [x2.2 2 5 (by decide)]; exact hcn) (by omega) (by rw [x2.2 15 5 (by decide)]; omega) hV' (by rw [hU']; exact q.2) (by omega)
          rw [hnext, hYs, hLi]
          exact e
        · have hnext : J (9 - (k : Int)) ((i + 1 : Nat) : Int) = J (9 - (k : Int)) i := by
            have h1 := zct_miss (U := α 18) (V := α 19) (c := c) (i := i) (u := 9 - k) q
            rw [hJz, hJz] at h1
            rw [show ((i + 1 : Nat) : Int) = (i : Int) + 1 by omega]
            omega
          rw [hnext]
          refine zsr_skip (M := d + 14) (c := c) (by rw [zup_eq]; exact y2) ⟨hi, hc30⟩ (by rw [zup_eq]; exact zQR_rng x1 166) (by omega) ?_
          rw [zup_eq, ← d1, ← f1, hU']
          by_cases q1 : α 18 i = 9 - k
          · left
            rw [x3 i (fun j hj e => by
              have h1 := (hLj j (by omega)).2.1
              rw [e] at h1
              exact q ⟨h1, q1⟩), e0 19 (by decide)]
            exact fun e => q ⟨e, q1⟩
          · exact Or.inr q1
      · have hnx : J (9 - (k : Int)) c = J (9 - ((k + 1 : Nat) : Int)) 0 := by
          have h1 := zct_next (U := α 18) (V := α 19) (c := c) (u := 9 - (k : Int))
          rw [hJz, hJz] at h1
          rw [show (9 : Int) - ((k + 1 : Nat) : Int) = 9 - k - 1 by omega]
          omega
        have hjn : J (9 - (k : Int)) c ≤ N := by
          rcases hJle (9 - (k : Int)) c (by omega) with q | q
          · exact q
          · omega
        obtain ⟨x1, x2, x3, x4⟩ := hXj _ hjn
        have y2 := (zQ_cnt x1).2.2.1
        rw [x2.2 15 5 (by decide), hcc] at y2
        rw [hnx] at y2 ⊢
        rw [show (9 : Int) - ((k + 1 : Nat) : Int) = 9 - k + -1 by omega] at y2 ⊢
        repeat' (first | rfl | (exfalso; first | omega | contradiction) | split | (rw [zruns_N 400]; simp (disch := first | assumption | omega | decide | ((simp (disch := omega) only [zup_ne, zup_eq]); first | assumption | omega)) only [sX12_serve_11, sX12_serve_12, sX12_serve_13, sX12_serve_16, sX12_serve_17, sX12_serve_18, sX12_serve_21, sX12_serve_22, sX12_serve_23, sX12_serve_24, sX12_serve_27, sX12_serve_30, sX12_serve_31, sX12_serve_32, sX12_serve_33, sX12_serve_36, sX12_serve_37, sX12_serve_40, sX12_serve_41, sX12_serve_42, sX12_serve_43, sX12_serve_44, sX12_serve_47, sX12_serve_48, sX12_serve_49, sX12_serve_50, sX12_serve_53, sX12_serve_56, sX12_serve_59, sX12_serve_62, sX12_serve_63, sX12_serve_66, sX12_serve_69, sX12_serve_70, sX12_serve_71, sX12_serve_72, sX12_serve_73, sX12_serve_74, sX12_serve_75, sX12_serve_76, sX12_serve_77, sX12_serve_80, sX12_serve_83, sX12_serve_86, sX12_serve_89, zkp_i, zkp_a, zkp_f, zkp_l, zkp_d, zkp_n, ycl_eq, zI_add, zI_sub, zI_mul, zI_neg, zI_inj, zI_lt, zI_le, zI_eq0, zI_lt0, zI_gt0, zI_le0, zI_ge0, yil_ok, yll_ok, yfl_ok, yis_ok, yls_ok, yfs_ok, y0_s, y1_s, ybo_ok, zset_w, zruns_if, zui_eq, zus_eq, zup_eq, Int.reduceAdd, Int.reduceSub, Int.reduceMul, Int.reduceNeg, Int.reduceLT, Int.reduceLE, Int.reduceEq, if_true, if_false, not_true_eq_false, not_false_eq_true, zw_165, zp_165_2, zp_165_9, zp_165_10, zp_165_11, zp_165_12, zp_165_13, zp_165_14, zw_166, zp_166, zw_167, zp_167, zw_168, zp_168, zw_169, zp_169, zw_170, zp_170, zw_171, zp_171, zw_172, zp_172, zw_173, zp_173, zw_174, zp_174, zw_175, zp_175, zw_176, zp_176, zw_177, zp_177, zw_178, zp_178, zw_179, zp_179, yg12_0, yg12_1, yg12_2, yg12_3, yg12_4, yg12_5, yg12_6, yg12_7, yg12_8, yg12_9, yg12_10, yg12_11, yg12_12, yg12_13, yg12_14, yg12_15, yg12_16, yg12_17, yg12_18, yg12_19, yg12_20, yp12_0, yp12_1, yp12_2, yp12_3, yp12_4, yp12_5, yp12_6, yp12_7, yp12_8, yp12_9, yp12_10, yp12_11, yp12_12, yp12_13, yp12_14, yp12_15, yp12_16, yp12_17, yp12_18, yp12_19, yp12_20, y2]))
    · rw [show (9 : Int) - ((10 : Nat) : Int) = -1 from rfl, hJN, ← hαN]
      rw [show zup αN 166 (αN 166) = αN from zup_id rfl]
      repeat' (first | rfl | (exfalso; first | omega | contradiction) | split | (rw [zruns_N 400]; simp (disch := first | assumption | omega | decide | ((simp (disch := omega) only [zup_ne, zup_eq]); first | assumption | omega)) only [sX12_serve_5, sX12_serve_6, sX12_serve_9, sX12_serve_10, sX12_serve_11, sX12_serve_12, sX12_serve_13, sX12_serve_16, sX12_serve_17, sX12_serve_18, sX12_serve_21, sX12_serve_22, sX12_serve_23, sX12_serve_24, sX12_serve_27, sX12_serve_30, sX12_serve_31, sX12_serve_32, sX12_serve_33, sX12_serve_36, sX12_serve_37, sX12_serve_40, sX12_serve_41, sX12_serve_42, sX12_serve_43, sX12_serve_44, sX12_serve_47, sX12_serve_48, sX12_serve_49, sX12_serve_50, sX12_serve_53, sX12_serve_56, sX12_serve_59, sX12_serve_62, sX12_serve_63, sX12_serve_66, sX12_serve_69, sX12_serve_70, sX12_serve_71, sX12_serve_72, sX12_serve_73, sX12_serve_74, sX12_serve_75, sX12_serve_76, sX12_serve_77, sX12_serve_80, sX12_serve_83, sX12_serve_86, sX12_serve_89, sX12_serve_92, sX12_serve_93, zkp_i, zkp_a, zkp_f, zkp_l, zkp_d, zkp_n, ycl_eq, zI_add, zI_sub, zI_mul, zI_neg, zI_inj, zI_lt, zI_le, zI_eq0, zI_lt0, zI_gt0, zI_le0, zI_ge0, yil_ok, yll_ok, yfl_ok, yis_ok, yls_ok, yfs_ok, y0_s, y1_s, ybo_ok, zset_w, zruns_if, zui_eq, zus_eq, zup_eq, Int.reduceAdd, Int.reduceSub, Int.reduceMul, Int.reduceNeg, Int.reduceLT, Int.reduceLE, Int.reduceEq, if_true, if_false, not_true_eq_false, not_false_eq_true, zw_165, zp_165_2, zp_165_9, zp_165_10, zp_165_11, zp_165_12, zp_165_13, zp_165_14, zw_166, zp_166, zw_167, zp_167, zw_168, zp_168, zw_169, zp_169, zw_170, zp_170, zw_171, zp_171, zw_172, zp_172, zw_173, zp_173, zw_174, zp_174, zw_175, zp_175, zw_176, zp_176, zw_177, zp_177, zw_178, zp_178, zw_179, zp_179, yg12_0, yg12_1, yg12_2, yg12_3, yg12_4, yg12_5, yg12_6, yg12_7, yg12_8, yg12_9, yg12_10, yg12_11, yg12_12, yg12_13, yg12_14, yg12_15, yg12_16, yg12_17, yg12_18, yg12_19, yg12_20, yp12_0, yp12_1, yp12_2, yp12_3, yp12_4, yp12_5, yp12_6, yp12_7, yp12_8, yp12_9, yp12_10, yp12_11, yp12_12, yp12_13, yp12_14, yp12_15, yp12_16, yp12_17, yp12_18, yp12_19, yp12_20]))
end SERVE2
