/-! ===== the reference goes through all parts ===== -/
section PARTS3
variable {d b : Nat} {z : Nat × Nat} {σ σ0 : Nat → Nat → Int} {α lo α0 : Nat → Int → Int} {φ : Nat → Int → UInt32} {p a n ai F : Int} {C D0 : Int → Int} {nt : Int → Nat → Int} {acc : Bool} {N c : Nat}
theorem zGd_br (hC : zCr σ α C) (hN : zNr σ α nt) (ha : 0 ≤ a ∧ a ≤ 120) (h : zGd C acc nt a) : a + 2 ≤ znx C acc nt a ∧ znx C acc nt a ≤ σ 165 9 ∧ 0 ≤ zam C acc nt a ∧ zam C acc nt a ≤ 9999 := by
  have h2 := h.2
  have hk4 := cdn_le (C := C) (a := zpo' C acc nt a)
  have hb := cdw_b (C := C) (a := zpo' C acc nt a) _ hk4 (fun i hi => cdn_lt hi)
  have h3 := cdn_lt (C := C) (a := zpo' C acc nt a) (i := cdn C (zpo' C acc nt a) - 1) (by omega)
  have hL := hC.1
  have h4 : zpo' C acc nt a + ((cdn C (zpo' C acc nt a) - 1 : Nat) : Int) < σ 165 9 := by
    by_cases q : zpo' C acc nt a + ((cdn C (zpo' C acc nt a) - 1 : Nat) : Int) < σ 165 9
    · exact q
    · rw [hC.2.2.1 _ (by omega)] at h3
      omega
  have h5 : a + 1 ≤ zpo' C acc nt a := by
    have h1 := h.1
    unfold zpo'
    unfold zhd at h1 ⊢
    split
    · exact Int.le_refl _
    · rename_i q
      rw [if_neg q] at h1
      split
      · rename_i q2
        rw [if_pos q2] at h1
        split
        · rename_i q3; rw [if_pos q3] at h1; dsimp only at h1; omega
        · rename_i q3
          rw [if_neg q3] at h1
          split
          · rename_i q4; rw [if_pos q4] at h1; dsimp only at h1; omega
          · rename_i q4
            rw [if_neg q4] at h1
            split
            · rename_i q5; rw [if_pos q5] at h1; dsimp only at h1; omega
            · dsimp only; omega
      · rename_i q2
        rw [if_neg q2] at h1
        split
        · rename_i q3; rw [if_pos q3] at h1; dsimp only at h1; omega
        · rename_i q3
          rw [if_neg q3] at h1
          split
          · rename_i q4; rw [if_pos q4] at h1; dsimp only at h1; omega
          · rename_i q4
            rw [if_neg q4] at h1
            split
            · rename_i q5; rw [if_pos q5] at h1; dsimp only at h1; omega
            · dsimp only; omega
  unfold znx zam
  omega
theorem zpa_br (hC : zCr σ α C) (hN : zNr σ α nt) : ∀ i : Nat, (∀ j, j < i → zGd C acc nt (zpa C acc nt j) ∧ C (znx C acc nt (zpa C acc nt j)) = 59) → 0 ≤ zpa C acc nt i ∧ zpa C acc nt i ≤ σ 165 9 := by
  intro i
  induction i with
  | zero => intro _; have := hC.1; show (0 : Int) ≤ 0 ∧ 0 ≤ σ 165 9; omega
  | succ i ih =>
    intro h
    obtain ⟨h1, h2⟩ := ih (fun j hj => h j (by omega))
    have hL := hC.1
    obtain ⟨g1, g2⟩ := h i (by omega)
    have hb := zGd_br hC hN (by omega) g1
    have hx : znx C acc nt (zpa C acc nt i) < σ 165 9 := by
      by_cases q : znx C acc nt (zpa C acc nt i) < σ 165 9
      · exact q
      · rw [hC.2.2.1 _ (by omega)] at g2
        omega
    show 0 ≤ znx C acc nt (zpa C acc nt i) + 1 ∧ znx C acc nt (zpa C acc nt i) + 1 ≤ σ 165 9
    omega
/-- where the reference stands when part i begins -/
def zht (C : Int → Int) (acc : Bool) (nt : Int → Nat → Int) (i : Nat) : Int := if i = 0 then 0 else zpa C acc nt i - 1
theorem zfl_br (hC : zCr σ α C) (hN : zNr σ α nt) (ha : 0 ≤ a ∧ a ≤ 120) (h : ¬ zGd C acc nt a) : 0 ≤ zfl' C acc nt a ∧ zfl' C acc nt a ≤ 500 := by
  have hd4 := cdn_le (C := C) (a := a + 1)
  have hl := cln_endr hC ha
  have hL := hC.1
  unfold zfl' zpo' zhd
  split
  · split <;> (dsimp only; omega)
  · split
    · split
      · split <;> (dsimp only; omega)
      · split
        · split <;> (dsimp only; omega)
        · split
          · split <;> (dsimp only; omega)
          · split <;> (dsimp only; omega)
    · split
      · split <;> (dsimp only; omega)
      · split
        · split <;> (dsimp only; omega)
        · split
          · split <;> (dsimp only; omega)
          · split <;> (dsimp only; omega)
theorem tX12_parts_0 (hC : zCr σ α C) (hN : zNr σ α nt) (hR : zrd C (σ 165 9) acc nt N F) (hai : ai = if acc = true then 0 else 1) : ∃ r a' f' : Int, (r = 0 ∨ r = 1) ∧ (0 ≤ a' ∧ a' ≤ 500) ∧ (∀ (d : Nat) (z : Nat × Nat), zcall (d + 6) kX12_parts [.ref (b + 165), .int (zI ai)] (z, zw b (zrs σ a (-1) p 0) α lo φ) = some (some (.int (zI r)), (z, zw b (zrs σ a' f' (N + 1) 0) α lo φ))) ∧ ((F = -1 ∧ f' = -1 ∧ σ 165 9 ≤ a') ∨ (0 ≤ F ∧ F ≤ 500 ∧ f' = F) ∨ (0 ≤ F ∧ f' = -1 ∧ a' = F ∧ F < σ 165 9)) := by
  obtain ⟨r1, r2, r3⟩ := hR
  have hL := hC.1
  have hpb := fun i (hi : i ≤ N) => zpa_br hC hN i (fun j hj => r1 j (by omega))
  have hloop : ∀ (d : Nat) (z : Nat × Nat), zcall (d + 6) kX12_parts [.ref (b + 165), .int (zI ai)] (z, zw b (zrs σ a (-1) p 0) α lo φ) = zruns (zcall (d + 5)) 12 2 cX12_parts (12, [some (.ref (b + 165)), some (.int (zI ai)), some (.int (zI 1))], [], (z, zw b (zrs σ (zht C acc nt N) (-1) N 0) α lo φ)) := fun d z => by
    rw [qX12_parts rfl]
    rw [zruns_N 400]
    simp (disch := first | assumption | omega | decide | ((simp (disch := omega) only [zup_ne, zup_eq]); first | assumption | omega)) only [sX12_parts_0, sX12_parts_1, sX12_parts_2, sX12_parts_5, sX12_parts_6, sX12_parts_7, sX12_parts_10, sX12_parts_11, zkp_i, zkp_a, zkp_f, zkp_l, zkp_d, zkp_n, ycl_eq, zI_add, zI_sub, zI_mul, zI_neg, zI_inj, zI_lt, zI_le, zI_eq0, zI_lt0, zI_gt0, zI_le0, zI_ge0, yil_ok, yll_ok, yfl_ok, yis_ok, yls_ok, yfs_ok, y0_s, y1_s, ybo_ok, zset_w, zruns_if, zui_eq, zus_eq, zup_eq, Int.reduceAdd, Int.reduceSub, Int.reduceMul, Int.reduceNeg, Int.reduceLT, Int.reduceLE, Int.reduceEq, if_true, if_false, not_true_eq_false, not_false_eq_true, zw_165, zp_165_2, zp_165_9, zp_165_10, zp_165_11, zp_165_12, zp_165_13, zp_165_14, zw_166, zp_166, zw_167, zp_167, zw_168, zp_168, zw_169, zp_169, zw_170, zp_170, zw_171, zp_171, zw_172, zp_172, zw_173, zp_173, zw_174, zp_174, zw_175, zp_175, zw_176, zp_176, zw_177, zp_177, zw_178, zp_178, zw_179, zp_179, yg12_0, yg12_1, yg12_2, yg12_3, yg12_4, yg12_5, yg12_6, yg12_7, yg12_8, yg12_9, yg12_10, yg12_11, yg12_12, yg12_13, yg12_14, yg12_15, yg12_16, yg12_17, yg12_18, yg12_19, yg12_20, yp12_0, yp12_1, yp12_2, yp12_3, yp12_4, yp12_5, yp12_6, yp12_7, yp12_8, yp12_9, yp12_10, yp12_11, yp12_12, yp12_13, yp12_14, yp12_15, yp12_16, yp12_17, yp12_18, yp12_19, yp12_20, zrs_11, zrs_12, zrs_13, zrs_14, zrs_o, zp_rs]
    rw [← zruns_N]
    refine zloop (run := zruns (zcall (d + 5)) 12 2 cX12_parts) (fun i => (12, [some (.ref (b + 165)), some (.int (zI ai)), some (.int (zI 1))], [], (z, zw b (zrs σ (zht C acc nt i) (-1) i 0) α lo φ))) N (fun i hi => ?_) rfl
    obtain ⟨b1, b2⟩ := hpb i (by omega)
    obtain ⟨g1, g2⟩ := r1 i hi
    have hgb := zGd_br hC hN (by omega) g1
    have hpd := (tX12_partRead (b := b) (lo := lo) (φ := φ) (p := i) (a := zpa C acc nt i) (acc := acc) hC hN (by omega)).1 g1 d z
    rw [← hai] at hpd
    have hse := rX12_sees (d := d + 4) (b := b) (z := z) (lo := lo) (φ := φ) (a := znx C acc nt (zpa C acc nt i)) (p := (i : Int) + 1) (e := 0) (c := 59) hC (by decide) (by omega) (by decide)
    rw [if_pos g2] at hse
    have hnx : zht C acc nt (i + 1) = znx C acc nt (zpa C acc nt i) := by
      show (if i + 1 = 0 then 0 else znx C acc nt (zpa C acc nt i) + 1 - 1) = _
      rw [if_neg (by omega)]
      omega
    rw [hnx, show ((i + 1 : Nat) : Int) = (i : Int) + 1 by omega]
    have hpre : zruns (zcall (d + 5)) 12 2 cX12_parts (12, [some (.ref (b + 165)), some (.int (zI ai)), some (.int (zI 1))], [], (z, zw b (zrs σ (zht C acc nt i) (-1) i 0) α lo φ)) = zruns (zcall (d + 5)) 12 2 cX12_parts (29, [some (.ref (b + 165)), some (.int (zI ai)), some (.int (zI 1))], [], (z, zw b (zrs σ (zpa C acc nt i) (-1) i 0) α lo φ)) := by
      by_cases q : i = 0
      · subst q
        rw [show zht C acc nt 0 = zpa C acc nt 0 from rfl]
        rw [zruns_N 400]
        simp (disch := first | assumption | omega | decide | ((simp (disch := omega) only [zup_ne, zup_eq]); first | assumption | omega)) only [sX12_parts_12, sX12_parts_13, sX12_parts_16, zkp_i, zkp_a, zkp_f, zkp_l, zkp_d, zkp_n, ycl_eq, zI_add, zI_sub, zI_mul, zI_neg, zI_inj, zI_lt, zI_le, zI_eq0, zI_lt0, zI_gt0, zI_le0, zI_ge0, yil_ok, yll_ok, yfl_ok, yis_ok, yls_ok, yfs_ok, y0_s, y1_s, ybo_ok, zset_w, zruns_if, zui_eq, zus_eq, zup_eq, Int.reduceAdd, Int.reduceSub, Int.reduceMul, Int.reduceNeg, Int.reduceLT, Int.reduceLE, Int.reduceEq, if_true, if_false, not_true_eq_false, not_false_eq_true, zw_165, zp_165_2, zp_165_9, zp_165_10, zp_165_11, zp_165_12, zp_165_13, zp_165_14, zw_166, zp_166, zw_167, zp_167, zw_168, zp_168, zw_169, zp_169, zw_170, zp_170, zw_171, zp_171, zw_172, zp_172, zw_173, zp_173, zw_174, zp_174, zw_175, zp_175, zw_176, zp_176, zw_177, zp_177, zw_178, zp_178, zw_179, zp_179, yg12_0, yg12_1, yg12_2, yg12_3, yg12_4, yg12_5, yg12_6, yg12_7, yg12_8, yg12_9, yg12_10, yg12_11, yg12_12, yg12_13, yg12_14, yg12_15, yg12_16, yg12_17, yg12_18, yg12_19, yg12_20, yp12_0, yp12_1, yp12_2, yp12_3, yp12_4, yp12_5, yp12_6, yp12_7, yp12_8, yp12_9, yp12_10, yp12_11, yp12_12, yp12_13, yp12_14, yp12_15, yp12_16, yp12_17, yp12_18, yp12_19, yp12_20, zrs_11, zrs_12, zrs_13, zrs_14, zrs_o, zp_rs]
        rw [if_pos (by omega)]
      · rw [show zht C acc nt i = zpa C acc nt i - 1 from if_neg q]
        rw [zruns_N 400]
        simp (disch := first | assumption | omega | decide | ((simp (disch := omega) only [zup_ne, zup_eq]); first | assumption | omega)) only [sX12_parts_12, sX12_parts_13, sX12_parts_16, zkp_i, zkp_a, zkp_f, zkp_l, zkp_d, zkp_n, ycl_eq, zI_add, zI_sub, zI_mul, zI_neg, zI_inj, zI_lt, zI_le, zI_eq0, zI_lt0, zI_gt0, zI_le0, zI_ge0, yil_ok, yll_ok, yfl_ok, yis_ok, yls_ok, yfs_ok, y0_s, y1_s, ybo_ok, zset_w, zruns_if, zui_eq, zus_eq, zup_eq, Int.reduceAdd, Int.reduceSub, Int.reduceMul, Int.reduceNeg, Int.reduceLT, Int.reduceLE, Int.reduceEq, if_true, if_false, not_true_eq_false, not_false_eq_true, zw_165, zp_165_2, zp_165_9, zp_165_10, zp_165_11, zp_165_12, zp_165_13, zp_165_14, zw_166, zp_166, zw_167, zp_167, zw_168, zp_168, zw_169, zp_169, zw_170, zp_170, zw_171, zp_171, zw_172, zp_172, zw_173, zp_173, zw_174, zp_174, zw_175, zp_175, zw_176, zp_176, zw_177, zp_177, zw_178, zp_178, zw_179, zp_179, yg12_0, yg12_1, yg12_2, yg12_3, yg12_4, yg12_5, yg12_6, yg12_7, yg12_8, yg12_9, yg12_10, yg12_11, yg12_12, yg12_13, yg12_14, yg12_15, yg12_16, yg12_17, yg12_18, yg12_19, yg12_20, yp12_0, yp12_1, yp12_2, yp12_3, yp12_4, yp12_5, yp12_6, yp12_7, yp12_8, yp12_9, yp12_10, yp12_11, yp12_12, yp12_13, yp12_14, yp12_15, yp12_16, yp12_17, yp12_18, yp12_19, yp12_20, zrs_11, zrs_12, zrs_13, zrs_14, zrs_o, zp_rs]
        rw [if_neg (by omega)]
        rw [zruns_N 400]
        simp (disch := first | assumption | omega | decide | ((simp (disch := omega) only [zup_ne, zup_eq]); first | assumption | omega)) only [sX12_parts_19, sX12_parts_20, sX12_parts_21, sX12_parts_24, sX12_parts_25, sX12_parts_26, zkp_i, zkp_a, zkp_f, zkp_l, zkp_d, zkp_n, ycl_eq, zI_add, zI_sub, zI_mul, zI_neg, zI_inj, zI_lt, zI_le, zI_eq0, zI_lt0, zI_gt0, zI_le0, zI_ge0, yil_ok, yll_ok, yfl_ok, yis_ok, yls_ok, yfs_ok, y0_s, y1_s, ybo_ok, zset_w, zruns_if, zui_eq, zus_eq, zup_eq, Int.reduceAdd, Int.reduceSub, Int.reduceMul, Int.reduceNeg, Int.reduceLT, Int.reduceLE, Int.reduceEq, if_true, if_false, not_true_eq_false, not_false_eq_true, zw_165, zp_165_2, zp_165_9, zp_165_10, zp_165_11, zp_165_12, zp_165_13, zp_165_14, zw_166, zp_166, zw_167, zp_167, zw_168, zp_168, zw_169, zp_169, zw_170, zp_170, zw_171, zp_171, zw_172, zp_172, zw_173, zp_173, zw_174, zp_174, zw_175, zp_175, zw_176, zp_176, zw_177, zp_177, zw_178, zp_178, zw_179, zp_179, yg12_0, yg12_1, yg12_2, yg12_3, yg12_4, yg12_5, yg12_6, yg12_7, yg12_8, yg12_9, yg12_10, yg12_11, yg12_12, yg12_13, yg12_14, yg12_15, yg12_16, yg12_17, yg12_18, yg12_19, yg12_20, yp12_0, yp12_1, yp12_2, yp12_3, yp12_4, yp12_5, yp12_6, yp12_7, yp12_8, yp12_9, yp12_10, yp12_11, yp12_12, yp12_13, yp12_14, yp12_15, yp12_16, yp12_17, yp12_18, yp12_19, yp12_20, zrs_11, zrs_12, zrs_13, zrs_14, zrs_o, zp_rs, Int.sub_add_cancel]
        rw [← zruns_N]
    rw [hpre]
    rw [zruns_N 400]
    simp (disch := first | assumption | omega | decide | ((simp (disch := omega) only [zup_ne, zup_eq]); first | assumption | omega)) only [sX12_parts_29, sX12_parts_30, sX12_parts_31, sX12_parts_34, sX12_parts_35, sX12_parts_36, sX12_parts_37, sX12_parts_40, sX12_parts_41, sX12_parts_42, sX12_parts_45, sX12_parts_46, zkp_i, zkp_a, zkp_f, zkp_l, zkp_d, zkp_n, ycl_eq, zI_add, zI_sub, zI_mul, zI_neg, zI_inj, zI_lt, zI_le, zI_eq0, zI_lt0, zI_gt0, zI_le0, zI_ge0, yil_ok, yll_ok, yfl_ok, yis_ok, yls_ok, yfs_ok, y0_s, y1_s, ybo_ok, zset_w, zruns_if, zui_eq, zus_eq, zup_eq, Int.reduceAdd, Int.reduceSub, Int.reduceMul, Int.reduceNeg, Int.reduceLT, Int.reduceLE, Int.reduceEq, if_true, if_false, not_true_eq_false, not_false_eq_true, zw_165, zp_165_2, zp_165_9, zp_165_10, zp_165_11, zp_165_12, zp_165_13, zp_165_14, zw_166, zp_166, zw_167, zp_167, zw_168, zp_168, zw_169, zp_169, zw_170, zp_170, zw_171, zp_171, zw_172, zp_172, zw_173, zp_173, zw_174, zp_174, zw_175, zp_175, zw_176, zp_176, zw_177, zp_177, zw_178, zp_178, zw_179, zp_179, yg12_0, yg12_1, yg12_2, yg12_3, yg12_4, yg12_5, yg12_6, yg12_7, yg12_8, yg12_9, yg12_10, yg12_11, yg12_12, yg12_13, yg12_14, yg12_15, yg12_16, yg12_17, yg12_18, yg12_19, yg12_20, yp12_0, yp12_1, yp12_2, yp12_3, yp12_4, yp12_5, yp12_6, yp12_7, yp12_8, yp12_9, yp12_10, yp12_11, yp12_12, yp12_13, yp12_14, yp12_15, yp12_16, yp12_17, yp12_18, yp12_19, yp12_20, zrs_11, zrs_12, zrs_13, zrs_14, zrs_o, zp_rs, hpd]
    rw [zruns_N 400]
    simp (disch := first | assumption | omega | decide | ((simp (disch := omega) only [zup_ne, zup_eq]); first | assumption | omega)) only [sX12_parts_49, sX12_parts_50, sX12_parts_52, sX12_parts_55, zkp_i, zkp_a, zkp_f, zkp_l, zkp_d, zkp_n, ycl_eq, zI_add, zI_sub, zI_mul, zI_neg, zI_inj, zI_lt, zI_le, zI_eq0, zI_lt0, zI_gt0, zI_le0, zI_ge0, yil_ok, yll_ok, yfl_ok, yis_ok, yls_ok, yfs_ok, y0_s, y1_s, ybo_ok, zset_w, zruns_if, zui_eq, zus_eq, zup_eq, Int.reduceAdd, Int.reduceSub, Int.reduceMul, Int.reduceNeg, Int.reduceLT, Int.reduceLE, Int.reduceEq, if_true, if_false, not_true_eq_false, not_false_eq_true, zw_165, zp_165_2, zp_165_9, zp_165_10, zp_165_11, zp_165_12, zp_165_13, zp_165_14, zw_166, zp_166, zw_167, zp_167, zw_168, zp_168, zw_169, zp_169, zw_170, zp_170, zw_171, zp_171, zw_172, zp_172, zw_173, zp_173, zw_174, zp_174, zw_175, zp_175, zw_176, zp_176, zw_177, zp_177, zw_178, zp_178, zw_179, zp_179, yg12_0, yg12_1, yg12_2, yg12_3, yg12_4, yg12_5, yg12_6, yg12_7, yg12_8, yg12_9, yg12_10, yg12_11, yg12_12, yg12_13, yg12_14, yg12_15, yg12_16, yg12_17, yg12_18, yg12_19, yg12_20, yp12_0, yp12_1, yp12_2, yp12_3, yp12_4, yp12_5, yp12_6, yp12_7, yp12_8, yp12_9, yp12_10, yp12_11, yp12_12, yp12_13, yp12_14, yp12_15, yp12_16, yp12_17, yp12_18, yp12_19, yp12_20, zrs_11, zrs_12, zrs_13, zrs_14, zrs_o, zp_rs, hse]
  obtain ⟨b1, b2⟩ := hpb N (Nat.le_refl _)
  have hpre : ∀ (d : Nat) (z : Nat × Nat), zruns (zcall (d + 5)) 12 2 cX12_parts (12, [some (.ref (b + 165)), some (.int (zI ai)), some (.int (zI 1))], [], (z, zw b (zrs σ (zht C acc nt N) (-1) N 0) α lo φ)) = zruns (zcall (d + 5)) 12 2 cX12_parts (29, [some (.ref (b + 165)), some (.int (zI ai)), some (.int (zI 1))], [], (z, zw b (zrs σ (zpa C acc nt N) (-1) N 0) α lo φ)) := fun d z => by
    by_cases q : N = 0
    · subst q
      rw [show zht C acc nt 0 = zpa C acc nt 0 from rfl]
      rw [zruns_N 400]
      simp (disch := first | assumption | omega | decide | ((simp (disch := omega) only [zup_ne, zup_eq]); first | assumption | omega)) only [sX12_parts_12, sX12_parts_13, sX12_parts_16, zkp_i, zkp_a, zkp_f, zkp_l, zkp_d, zkp_n, ycl_eq, zI_add, zI_sub, zI_mul, zI_neg, zI_inj, zI_lt, zI_le, zI_eq0, zI_lt0, zI_gt0, zI_le0, zI_ge0, yil_ok, yll_ok, yfl_ok, yis_ok, yls_ok, yfs_ok, y0_s, y1_s, ybo_ok, zset_w, zruns_if, zui_eq, zus_eq, zup_eq, Int.reduceAdd, Int.reduceSub, Int.reduceMul, Int.reduceNeg, Int.reduceLT, Int.reduceLE, Int.reduceEq, if_true, if_false, not_true_eq_false, not_false_eq_true, zw_165, zp_165_2, zp_165_9, zp_165_10, zp_165_11, zp_165_12, zp_165_13, zp_165_14, zw_166, zp_166, zw_167, zp_167, zw_168, zp_168, zw_169, zp_169, zw_170, zp_170, zw_171, zp_171, zw_172, zp_172, zw_173, zp_173, zw_174, zp_174, zw_175, zp_175, zw_176, zp_176, zw_177, zp_177, zw_178, zp_178, zw_179, zp_179, yg12_0, yg12_1, yg12_2, yg12_3, yg12_4, yg12_5, yg12_6, yg12_7, yg12_8, yg12_9, yg12_10, yg12_11, yg12_12, yg12_13, yg12_14, yg12_15, yg12_16, yg12_17, yg12_18, yg12_19, yg12_20, yp12_0, yp12_1, yp12_2, yp12_3, yp12_4, yp12_5, yp12_6, yp12_7, yp12_8, yp12_9, yp12_10, yp12_11, yp12_12, yp12_13, yp12_14, yp12_15, yp12_16, yp12_17, yp12_18, yp12_19, yp12_20, zrs_11, zrs_12, zrs_13, zrs_14, zrs_o, zp_rs]
      rw [if_pos (by omega)]
    · rw [show zht C acc nt N = zpa C acc nt N - 1 from if_neg q]
      rw [zruns_N 400]
      simp (disch := first | assumption | omega | decide | ((simp (disch := omega) only [zup_ne, zup_eq]); first | assumption | omega)) only [sX12_parts_12, sX12_parts_13, sX12_parts_16, zkp_i, zkp_a, zkp_f, zkp_l, zkp_d, zkp_n, ycl_eq, zI_add, zI_sub, zI_mul, zI_neg, zI_inj, zI_lt, zI_le, zI_eq0, zI_lt0, zI_gt0, zI_le0, zI_ge0, yil_ok, yll_ok, yfl_ok, yis_ok, yls_ok, yfs_ok, y0_s, y1_s, ybo_ok, zset_w, zruns_if, zui_eq, zus_eq, zup_eq, Int.reduceAdd, Int.reduceSub, Int.reduceMul, Int.reduceNeg, Int.reduceLT, Int.reduceLE, Int.reduceEq, if_true, if_false, not_true_eq_false, not_false_eq_true, zw_165, zp_165_2, zp_165_9, zp_165_10, zp_165_11, zp_165_12, zp_165_13, zp_165_14, zw_166, zp_166, zw_167, zp_167, zw_168, zp_168, zw_169, zp_169, zw_170, zp_170, zw_171, zp_171, zw_172, zp_172, zw_173, zp_173, zw_174, zp_174, zw_175, zp_175, zw_176, zp_176, zw_177, zp_177, zw_178, zp_178, zw_179, zp_179, yg12_0, yg12_1, yg12_2, yg12_3, yg12_4, yg12_5, yg12_6, yg12_7, yg12_8, yg12_9, yg12_10, yg12_11, yg12_12, yg12_13, yg12_14, yg12_15, yg12_16, yg12_17, yg12_18, yg12_19, yg12_20, yp12_0, yp12_1, yp12_2, yp12_3, yp12_4, yp12_5, yp12_6, yp12_7, yp12_8, yp12_9, yp12_10, yp12_11, yp12_12, yp12_13, yp12_14, yp12_15, yp12_16, yp12_17, yp12_18, yp12_19, yp12_20, zrs_11, zrs_12, zrs_13, zrs_14, zrs_o, zp_rs]
      rw [if_neg (by omega)]
      rw [zruns_N 400]
      simp (disch := first | assumption | omega | decide | ((simp (disch := omega) only [zup_ne, zup_eq]); first | assumption | omega)) only [sX12_parts_19, sX12_parts_20, sX12_parts_21, sX12_parts_24, sX12_parts_25, sX12_parts_26, zkp_i, zkp_a, zkp_f, zkp_l, zkp_d, zkp_n, ycl_eq, zI_add, zI_sub, zI_mul, zI_neg, zI_inj, zI_lt, zI_le, zI_eq0, zI_lt0, zI_gt0, zI_le0, zI_ge0, yil_ok, yll_ok, yfl_ok, yis_ok, yls_ok, yfs_ok, y0_s, y1_s, ybo_ok, zset_w, zruns_if, zui_eq, zus_eq, zup_eq, Int.reduceAdd, Int.reduceSub, Int.reduceMul, Int.reduceNeg, Int.reduceLT, Int.reduceLE, Int.reduceEq, if_true, if_false, not_true_eq_false, not_false_eq_true, zw_165, zp_165_2, zp_165_9, zp_165_10, zp_165_11, zp_165_12, zp_165_13, zp_165_14, zw_166, zp_166, zw_167, zp_167, zw_168, zp_168, zw_169, zp_169, zw_170, zp_170, zw_171, zp_171, zw_172, zp_172, zw_173, zp_173, zw_174, zp_174, zw_175, zp_175, zw_176, zp_176, zw_177, zp_177, zw_178, zp_178, zw_179, zp_179, yg12_0, yg12_1, yg12_2, yg12_3, yg12_4, yg12_5, yg12_6, yg12_7, yg12_8, yg12_9, yg12_10, yg12_11, yg12_12, yg12_13, yg12_14, yg12_15, yg12_16, yg12_17, yg12_18, yg12_19, yg12_20, yp12_0, yp12_1, yp12_2, yp12_3, yp12_4, yp12_5, yp12_6, yp12_7, yp12_8, yp12_9, yp12_10, yp12_11, yp12_12, yp12_13, yp12_14, yp12_15, yp12_16, yp12_17, yp12_18, yp12_19, yp12_20, zrs_11, zrs_12, zrs_13, zrs_14, zrs_o, zp_rs, Int.sub_add_cancel]
      rw [← zruns_N]
  have hpr := tX12_partRead (b := b) (lo := lo) (φ := φ) (p := N) (a := zpa C acc nt N) (acc := acc) hC hN (by omega)
  have hgood : zGd C acc nt (zpa C acc nt N) → C (znx C acc nt (zpa C acc nt N)) ≠ 59 → ∀ (d : Nat) (z : Nat × Nat), zcall (d + 6) kX12_parts [.ref (b + 165), .int (zI ai)] (z, zw b (zrs σ a (-1) p 0) α lo φ) = some (some (.int (zI 1)), (z, zw b (zrs σ (znx C acc nt (zpa C acc nt N)) (-1) (N + 1) 0) α lo φ)) := fun g h59 d z => by
    have hgb := zGd_br hC hN (by omega) g
    have hpd := hpr.1 g d z
    rw [← hai] at hpd
    have hse := rX12_sees (d := d + 4) (b := b) (z := z) (lo := lo) (φ := φ) (a := znx C acc nt (zpa C acc nt N)) (p := (N : Int) + 1) (e := 0) (c := 59) hC (by decide) (by omega) (by decide)
    rw [if_neg h59] at hse
    rw [hloop, hpre]
    rw [zruns_N 400]
    simp (disch := first | assumption | omega | decide | ((simp (disch := omega) only [zup_ne, zup_eq]); first | assumption | omega)) only [sX12_parts_29, sX12_parts_30, sX12_parts_31, sX12_parts_34, sX12_parts_35, sX12_parts_36, sX12_parts_37, sX12_parts_40, sX12_parts_41, sX12_parts_42, sX12_parts_45, sX12_parts_46, zkp_i, zkp_a, zkp_f, zkp_l, zkp_d, zkp_n, ycl_eq, zI_add, zI_sub, zI_mul, zI_neg, zI_inj, zI_lt, zI_le, zI_eq0, zI_lt0, zI_gt0, zI_le0, zI_ge0, yil_ok, yll_ok, yfl_ok, yis_ok, yls_ok, yfs_ok, y0_s, y1_s, ybo_ok, zset_w, zruns_if, zui_eq, zus_eq, zup_eq, Int.reduceAdd, Int.reduceSub, Int.reduceMul, Int.reduceNeg, Int.reduceLT, Int.reduceLE, Int.reduceEq, if_true, if_false, not_true_eq_false, not_false_eq_true, zw_165, zp_165_2, zp_165_9, zp_165_10, zp_165_11, zp_165_12, zp_165_13, zp_165_14, zw_166, zp_166, zw_167, zp_167, zw_168, zp_168, zw_169, zp_169, zw_170, zp_170, zw_171, zp_171, zw_172, zp_172, zw_173, zp_173, zw_174, zp_174, zw_175, zp_175, zw_176, zp_176, zw_177, zp_177, zw_178, zp_178, zw_179, zp_179, yg12_0, yg12_1, yg12_2, yg12_3, yg12_4, yg12_5, yg12_6, yg12_7, yg12_8, yg12_9, yg12_10, yg12_11, yg12_12, yg12_13, yg12_14, yg12_15, yg12_16, yg12_17, yg12_18, yg12_19, yg12_20, yp12_0, yp12_1, yp12_2, yp12_3, yp12_4, yp12_5, yp12_6, yp12_7, yp12_8, yp12_9, yp12_10, yp12_11, yp12_12, yp12_13, yp12_14, yp12_15, yp12_16, yp12_17, yp12_18, yp12_19, yp12_20, zrs_11, zrs_12, zrs_13, zrs_14, zrs_o, zp_rs, hpd]
    rw [zruns_N 400]
    simp (disch := first | assumption | omega | decide | ((simp (disch := omega) only [zup_ne, zup_eq]); first | assumption | omega)) only [sX12_parts_49, sX12_parts_50, sX12_parts_52, sX12_parts_55, zkp_i, zkp_a, zkp_f, zkp_l, zkp_d, zkp_n, ycl_eq, zI_add, zI_sub, zI_mul, zI_neg, zI_inj, zI_lt, zI_le, zI_eq0, zI_lt0, zI_gt0, zI_le0, zI_ge0, yil_ok, yll_ok, yfl_ok, yis_ok, yls_ok, yfs_ok, y0_s, y1_s, ybo_ok, zset_w, zruns_if, zui_eq, zus_eq, zup_eq, Int.reduceAdd, Int.reduceSub, Int.reduceMul, Int.reduceNeg, Int.reduceLT, Int.reduceLE, Int.reduceEq, if_true, if_false, not_true_eq_false, not_false_eq_true, zw_165, zp_165_2, zp_165_9, zp_165_10, zp_165_11, zp_165_12, zp_165_13, zp_165_14, zw_166, zp_166, zw_167, zp_167, zw_168, zp_168, zw_169, zp_169, zw_170, zp_170, zw_171, zp_171, zw_172, zp_172, zw_173, zp_173, zw_174, zp_174, zw_175, zp_175, zw_176, zp_176, zw_177, zp_177, zw_178, zp_178, zw_179, zp_179, yg12_0, yg12_1, yg12_2, yg12_3, yg12_4, yg12_5, yg12_6, yg12_7, yg12_8, yg12_9, yg12_10, yg12_11, yg12_12, yg12_13, yg12_14, yg12_15, yg12_16, yg12_17, yg12_18, yg12_19, yg12_20, yp12_0, yp12_1, yp12_2, yp12_3, yp12_4, yp12_5, yp12_6, yp12_7, yp12_8, yp12_9, yp12_10, yp12_11, yp12_12, yp12_13, yp12_14, yp12_15, yp12_16, yp12_17, yp12_18, yp12_19, yp12_20, zrs_11, zrs_12, zrs_13, zrs_14, zrs_o, zp_rs, hse]
    rw [zruns_N 400]
    simp (disch := first | assumption | omega | decide | ((simp (disch := omega) only [zup_ne, zup_eq]); first | assumption | omega)) only [sX12_parts_58, sX12_parts_59, zkp_i, zkp_a, zkp_f, zkp_l, zkp_d, zkp_n, ycl_eq, zI_add, zI_sub, zI_mul, zI_neg, zI_inj, zI_lt, zI_le, zI_eq0, zI_lt0, zI_gt0, zI_le0, zI_ge0, yil_ok, yll_ok, yfl_ok, yis_ok, yls_ok, yfs_ok, y0_s, y1_s, ybo_ok, zset_w, zruns_if, zui_eq, zus_eq, zup_eq, Int.reduceAdd, Int.reduceSub, Int.reduceMul, Int.reduceNeg, Int.reduceLT, Int.reduceLE, Int.reduceEq, if_true, if_false, not_true_eq_false, not_false_eq_true, zw_165, zp_165_2, zp_165_9, zp_165_10, zp_165_11, zp_165_12, zp_165_13, zp_165_14, zw_166, zp_166, zw_167, zp_167, zw_168, zp_168, zw_169, zp_169, zw_170, zp_170, zw_171, zp_171, zw_172, zp_172, zw_173, zp_173, zw_174, zp_174, zw_175, zp_175, zw_176, zp_176, zw_177, zp_177, zw_178, zp_178, zw_179, zp_179, yg12_0, yg12_1, yg12_2, yg12_3, yg12_4, yg12_5, yg12_6, yg12_7, yg12_8, yg12_9, yg12_10, yg12_11, yg12_12, yg12_13, yg12_14, yg12_15, yg12_16, yg12_17, yg12_18, yg12_19, yg12_20, yp12_0, yp12_1, yp12_2, yp12_3, yp12_4, yp12_5, yp12_6, yp12_7, yp12_8, yp12_9, yp12_10, yp12_11, yp12_12, yp12_13, yp12_14, yp12_15, yp12_16, yp12_17, yp12_18, yp12_19, yp12_20]
  rcases r3 with ⟨g, hF⟩ | ⟨g, h59, hlt, hF⟩ | ⟨g, hle, hF⟩
  · obtain ⟨r, a', hr, ha', hpd⟩ := hpr.2 g
    have hFb : 0 ≤ zfl' C acc nt (zpa C acc nt N) ∧ zfl' C acc nt (zpa C acc nt N) ≤ 500 := zfl_br hC hN (by omega) g
    refine ⟨r, a', F, hr, ha', fun d z => ?_, Or.inr (Or.inl ⟨by rw [hF]; exact hFb.1, by rw [hF]; exact hFb.2, rfl⟩)⟩
    have hpd := hpd d z
    rw [← hai, ← hF] at hpd
    rw [← hF] at hFb
    have hse := rX12_sees' (d := d + 4) (b := b) (z := z) (lo := lo) (φ := φ) (a := a') (f := F) (p := (N : Int) + 1) (e := 0) (c := 59) hC (by omega) ha' (by decide)
    rw [hloop, hpre]
    rcases hr with rfl | rfl
    · rw [zruns_N 400]
      simp (disch := first | assumption | omega | decide | ((simp (disch := omega) only [zup_ne, zup_eq]); first | assumption | omega)) only [sX12_parts_29, sX12_parts_30, sX12_parts_31, sX12_parts_34, sX12_parts_35, sX12_parts_36, sX12_parts_37, sX12_parts_40, sX12_parts_41, sX12_parts_42, sX12_parts_45, sX12_parts_46, zkp_i, zkp_a, zkp_f, zkp_l, zkp_d, zkp_n, ycl_eq, zI_add, zI_sub, zI_mul, zI_neg, zI_inj, zI_lt, zI_le, zI_eq0, zI_lt0, zI_gt0, zI_le0, zI_ge0, yil_ok, yll_ok, yfl_ok, yis_ok, yls_ok, yfs_ok, y0_s, y1_s, ybo_ok, zset_w, zruns_if, zui_eq, zus_eq, zup_eq, Int.reduceAdd, Int.reduceSub, Int.reduceMul, Int.reduceNeg, Int.reduceLT, Int.reduceLE, Int.reduceEq, if_true, if_false, not_true_eq_false, not_false_eq_true, zw_165, zp_165_2, zp_165_9, zp_165_10, zp_165_11, zp_165_12, zp_165_13, zp_165_14, zw_166, zp_166, zw_167, zp_167, zw_168, zp_168, zw_169, zp_169, zw_170, zp_170, zw_171, zp_171, zw_172, zp_172, zw_173, zp_173, zw_174, zp_174, zw_175, zp_175, zw_176, zp_176, zw_177, zp_177, zw_178, zp_178, zw_179, zp_179, yg12_0, yg12_1, yg12_2, yg12_3, yg12_4, yg12_5, yg12_6, yg12_7, yg12_8, yg12_9, yg12_10, yg12_11, yg12_12, yg12_13, yg12_14, yg12_15, yg12_16, yg12_17, yg12_18, yg12_19, yg12_20, yp12_0, yp12_1, yp12_2, yp12_3, yp12_4, yp12_5, yp12_6, yp12_7, yp12_8, yp12_9, yp12_10, yp12_11, yp12_12, yp12_13, yp12_14, yp12_15, yp12_16, yp12_17, yp12_18, yp12_19, yp12_20, zrs_11, zrs_12, zrs_13, zrs_14, zrs_o, zp_rs, hpd]
      rw [zruns_N 400]
      simp (disch := first | assumption | omega | decide | ((simp (disch := omega) only [zup_ne, zup_eq]); first | assumption | omega)) only [sX12_parts_58, sX12_parts_59, zkp_i, zkp_a, zkp_f, zkp_l, zkp_d, zkp_n, ycl_eq, zI_add, zI_sub, zI_mul, zI_neg, zI_inj, zI_lt, zI_le, zI_eq0, zI_lt0, zI_gt0, zI_le0, zI_ge0, yil_ok, yll_ok, yfl_ok, yis_ok, yls_ok, yfs_ok, y0_s, y1_s, ybo_ok, zset_w, zruns_if, zui_eq, zus_eq, zup_eq, Int.reduceAdd, Int.reduceSub, Int.reduceMul, Int.reduceNeg, Int.reduceLT, Int.reduceLE, Int.reduceEq, if_true, if_false, not_true_eq_false, not_false_eq_true, zw_165, zp_165_2, zp_165_9, zp_165_10, zp_165_11, zp_165_12, zp_165_13, zp_165_14, zw_166, zp_166, zw_167, zp_167, zw_168, zp_168, zw_169, zp_169, zw_170, zp_170, zw_171, zp_171, zw_172, zp_172, zw_173, zp_173, zw_174, zp_174, zw_175, zp_175, zw_176, zp_176, zw_177, zp_177, zw_178, zp_178, zw_179, zp_179, yg12_0, yg12_1, yg12_2, yg12_3, yg12_4, yg12_5, yg12_6, yg12_7, yg12_8, yg12_9, yg12_10, yg12_11, yg12_12, yg12_13, yg12_14, yg12_15, yg12_16, yg12_17, yg12_18, yg12_19, yg12_20, yp12_0, yp12_1, yp12_2, yp12_3, yp12_4, yp12_5, yp12_6, yp12_7, yp12_8, yp12_9, yp12_10, yp12_11, yp12_12, yp12_13, yp12_14, yp12_15, yp12_16, yp12_17, yp12_18, yp12_19, yp12_20]
    · rw [zruns_N 400]
      simp (disch := first | assumption | omega | decide | ((simp (disch := omega) only [zup_ne, zup_eq]); first | assumption | omega)) only [sX12_parts_29, sX12_parts_30, sX12_parts_31, sX12_parts_34, sX12_parts_35, sX12_parts_36, sX12_parts_37, sX12_parts_40, sX12_parts_41, sX12_parts_42, sX12_parts_45, sX12_parts_46, zkp_i, zkp_a, zkp_f, zkp_l, zkp_d, zkp_n, ycl_eq, zI_add, zI_sub, zI_mul, zI_neg, zI_inj, zI_lt, zI_le, zI_eq0, zI_lt0, zI_gt0, zI_le0, zI_ge0, yil_ok, yll_ok, yfl_ok, yis_ok, yls_ok, yfs_ok, y0_s, y1_s, ybo_ok, zset_w, zruns_if, zui_eq, zus_eq, zup_eq, Int.reduceAdd, Int.reduceSub, Int.reduceMul, Int.reduceNeg, Int.reduceLT, Int.reduceLE, Int.reduceEq, if_true, if_false, not_true_eq_false, not_false_eq_true, zw_165, zp_165_2, zp_165_9, zp_165_10, zp_165_11, zp_165_12, zp_165_13, zp_165_14, zw_166, zp_166, zw_167, zp_167, zw_168, zp_168, zw_169, zp_169, zw_170, zp_170, zw_171, zp_171, zw_172, zp_172, zw_173, zp_173, zw_174, zp_174, zw_175, zp_175, zw_176, zp_176, zw_177, zp_177, zw_178, zp_178, zw_179, zp_179, yg12_0, yg12_1, yg12_2, yg12_3, yg12_4, yg12_5, yg12_6, yg12_7, yg12_8, yg12_9, yg12_10, yg12_11, yg12_12, yg12_13, yg12_14, yg12_15, yg12_16, yg12_17, yg12_18, yg12_19, yg12_20, yp12_0, yp12_1, yp12_2, yp12_3, yp12_4, yp12_5, yp12_6, yp12_7, yp12_8, yp12_9, yp12_10, yp12_11, yp12_12, yp12_13, yp12_14, yp12_15, yp12_16, yp12_17, yp12_18, yp12_19, yp12_20, zrs_11, zrs_12, zrs_13, zrs_14, zrs_o, zp_rs, hpd]
      rw [zruns_N 400]
      simp (disch := first | assumption | omega | decide | ((simp (disch := omega) only [zup_ne, zup_eq]); first | assumption | omega)) only [sX12_parts_49, sX12_parts_50, sX12_parts_52, sX12_parts_55, zkp_i, zkp_a, zkp_f, zkp_l, zkp_d, zkp_n, ycl_eq, zI_add, zI_sub, zI_mul, zI_neg, zI_inj, zI_lt, zI_le, zI_eq0, zI_lt0, zI_gt0, zI_le0, zI_ge0, yil_ok, yll_ok, yfl_ok, yis_ok, yls_ok, yfs_ok, y0_s, y1_s, ybo_ok, zset_w, zruns_if, zui_eq, zus_eq, zup_eq, Int.reduceAdd, Int.reduceSub, Int.reduceMul, Int.reduceNeg, Int.reduceLT, Int.reduceLE, Int.reduceEq, if_true, if_false, not_true_eq_false, not_false_eq_true, zw_165, zp_165_2, zp_165_9, zp_165_10, zp_165_11, zp_165_12, zp_165_13, zp_165_14, zw_166, zp_166, zw_167, zp_167, zw_168, zp_168, zw_169, zp_169, zw_170, zp_170, zw_171, zp_171, zw_172, zp_172, zw_173, zp_173, zw_174, zp_174, zw_175, zp_175, zw_176, zp_176, zw_177, zp_177, zw_178, zp_178, zw_179, zp_179, yg12_0, yg12_1, yg12_2, yg12_3, yg12_4, yg12_5, yg12_6, yg12_7, yg12_8, yg12_9, yg12_10, yg12_11, yg12_12, yg12_13, yg12_14, yg12_15, yg12_16, yg12_17, yg12_18, yg12_19, yg12_20, yp12_0, yp12_1, yp12_2, yp12_3, yp12_4, yp12_5, yp12_6, yp12_7, yp12_8, yp12_9, yp12_10, yp12_11, yp12_12, yp12_13, yp12_14, yp12_15, yp12_16, yp12_17, yp12_18, yp12_19, yp12_20, zrs_11, zrs_12, zrs_13, zrs_14, zrs_o, zp_rs, hse]
      rw [zruns_N 400]
      simp (disch := first | assumption | omega | decide | ((simp (disch := omega) only [zup_ne, zup_eq]); first | assumption | omega)) only [sX12_parts_58, sX12_parts_59, zkp_i, zkp_a, zkp_f, zkp_l, zkp_d, zkp_n, ycl_eq, zI_add, zI_sub, zI_mul, zI_neg, zI_inj, zI_lt, zI_le, zI_eq0, zI_lt0, zI_gt0, zI_le0, zI_ge0, yil_ok, yll_ok, yfl_ok, yis_ok, yls_ok, yfs_ok, y0_s, y1_s, ybo_ok, zset_w, zruns_if, zui_eq, zus_eq, zup_eq, Int.reduceAdd, Int.reduceSub, Int.reduceMul, Int.reduceNeg, Int.reduceLT, Int.reduceLE, Int.reduceEq, if_true, if_false, not_true_eq_false, not_false_eq_true, zw_165, zp_165_2, zp_165_9, zp_165_10, zp_165_11, zp_165_12, zp_165_13, zp_165_14, zw_166, zp_166, zw_167, zp_167, zw_168, zp_168, zw_169, zp_169, zw_170, zp_170, zw_171, zp_171, zw_172, zp_172, zw_173, zp_173, zw_174, zp_174, zw_175, zp_175, zw_176, zp_176, zw_177, zp_177, zw_178, zp_178, zw_179, zp_179, yg12_0, yg12_1, yg12_2, yg12_3, yg12_4, yg12_5, yg12_6, yg12_7, yg12_8, yg12_9, yg12_10, yg12_11, yg12_12, yg12_13, yg12_14, yg12_15, yg12_16, yg12_17, yg12_18, yg12_19, yg12_20, yp12_0, yp12_1, yp12_2, yp12_3, yp12_4, yp12_5, yp12_6, yp12_7, yp12_8, yp12_9, yp12_10, yp12_11, yp12_12, yp12_13, yp12_14, yp12_15, yp12_16, yp12_17, yp12_18, yp12_19, yp12_20]
  · have hgb := zGd_br hC hN (by omega) g
    exact ⟨1, _, -1, Or.inr rfl, by omega, hgood g h59, Or.inr (Or.inr ⟨by omega, rfl, hF.symm, by omega⟩)⟩
  · have hgb := zGd_br hC hN (by omega) g
    have h59 : C (znx C acc nt (zpa C acc nt N)) ≠ 59 := by
      rw [hC.2.2.1 _ hle]
      decide
    exact ⟨1, _, -1, Or.inr rfl, by omega, hgood g h59, Or.inl ⟨hF, rfl, hle⟩⟩
end PARTS3
