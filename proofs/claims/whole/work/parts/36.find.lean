/-! ===== the public calls: find ===== -/
theorem zfst_eq {p : Nat → Bool} {r0 : Nat} : ∀ m i r, i ≤ r → r < i + m → (∀ j, i ≤ j → j < r → p j = false) → p r = true → zfst p (fun k => k) r0 m i = r := by
  intro m
  induction m with
  | zero => intro i r a c; omega
  | succ m ih =>
    intro i r a c h hr
    rw [zfst]
    by_cases e : i = r
    · rw [e, if_pos hr]
    · rw [h i (by omega) (by omega), if_neg (by decide)]
      exact ih (i + 1) r (by omega) (by omega) (fun j x y => h j (by omega) y) hr
section FIND
variable {d b : Nat} {σ : Nat → Nat → Int} {α lo : Nat → Int → Int} {φ : Nat → Int → UInt32}
theorem oX_find (H : zQR σ α lo) : zOK d b kX11_find kX12_find [] σ α lo φ := by
  obtain ⟨c0, c1, c2, c3, c4, c5⟩ := zQ_cnt H
  obtain ⟨t1, t2, t3, t4⟩ := zQR_tape H
  have hl := zQ_note H
  have hg := zQR_lng H
  have hz0 := zQR_rng H 130
  have hz8 := zQR_rng H 168
  have hz6 := zQR_rng H 166
  have hc6 : 0 ≤ α 166 0 ∧ α 166 0 ≤ 40 := by omega
  have k2 : zTx 129 120 := ⟨by decide, by decide, by decide, by decide, by decide⟩
  have hs : 0 ≤ σ 129 1 ∧ σ 129 1 ≤ 120 := ⟨t2, t3⟩
  have e25 : zus σ 129 1 0 2 5 = σ 2 5 := zus_ne (by decide)
  have e9 : zus σ 129 1 0 165 9 = σ 165 9 := zus_ne (by decide)
  have hcw : 0 ≤ zus σ 129 1 0 2 5 ∧ zus σ 129 1 0 2 5 ≤ 40 := by rw [e25]; exact c3
  have h9 : 0 ≤ zus σ 129 1 0 165 9 ∧ zus σ 129 1 0 165 9 ≤ 120 := by rw [e9]; omega
  obtain ⟨L, hL⟩ := Int.eq_ofNat_of_zero_le t2
  have hLt : (σ 129 1).toNat = L := by omega
  have h165 : σ 165 9 = L := by omega
  by_cases hok : 0 < L ∧ L ≤ 7 ∧ ∀ i : Nat, i < L → 97 ≤ α 130 i ∧ α 130 i ≤ 122
  · obtain ⟨o1, o2, o3⟩ := hok
    have eF : zfst (fun i => decide (7 ≤ i ∨ ¬ (97 ≤ α 130 i ∧ α 130 i ≤ 122))) (fun i => (i : Int)) (if 0 < σ 129 1 then -5 else 0) (σ 129 1).toNat 0 = -5 := by
      rw [zfst_no _ 0 (fun j a c => decide_eq_false (fun h => by
        have := o3 j (by omega)
        omega)), if_pos (by omega)]
    have o8 : ∀ i : Nat, i < L → 97 ≤ α 168 i ∧ α 168 i ≤ 122 := fun i hi => by
      have := (t4 i (by omega) (by omega)).1
      rw [← this]
      exact o3 i hi
    have eN : zltn (σ 165 9) (α 168) 0 = L := by
      refine zfst_eq 121 0 L (by omega) (by omega) (fun j a c => ?_) ?_
      · have := o8 j c
        unfold zlt
        rw [Int.zero_add, decide_eq_true (by omega)]
        rfl
      · unfold zlt
        rw [decide_eq_false (by omega)]
        rfl
    have hwt : ∀ i : Int, 0 ≤ i → i < L → i < 7 → 97 ≤ α 130 (0 + i) ∧ α 130 (0 + i) ≤ 122 := fun i a c _ => by
      obtain ⟨j, rfl⟩ := Int.eq_ofNat_of_zero_le a
      rw [Int.zero_add]
      exact o3 j (by omega)
    have hw8 : zr8 (zhn (zwd (α 130) 0 L) 7) := by
      have := zhn_b7 (c := zwd (α 130) 0 L) (n := 7) (by decide) (fun k hk => by
        unfold zwd
        split
        · rename_i q
          have := hwt k (by omega) q (by omega)
          omega
        · decide)
      omega
    have ew : zhn (zwd (α 130) 0 L) 7 = zhn (zwd (α 168) 0 L) 7 := zhn_eq 7 (fun k hk => by
      unfold zwd
      by_cases q : (k : Int) < L
      · rw [if_pos q, if_pos q, Int.zero_add, (t4 k (by omega) (by omega)).1]
      · rw [if_neg q, if_neg q])
    have eZ : zfst (fun n => zhasb (α 166) (α 168) 0 L n) (fun n => (n : Int)) (-5) (α 166 0).toNat 0 = zfst (fun n => decide (lo 3 n = zhn (zwd (α 130) 0 L) 7)) (fun n => (n : Int)) (-5) (σ 2 5).toNat 0 := by
      rw [c0]
      refine zfst_c _ 0 (fun j a c => ?_)
      obtain ⟨n1, n2, n3, n4, n5⟩ := hl j (by omega) (by omega)
      have hi := zhas_w (A := α 166) (T := α 168) (n := j) (m := L) ⟨o1, o2⟩ n2 n4 (fun k hk q => o8 k (by omega))
      rw [← ew, ← n1] at hi
      by_cases q : lo 3 j = zhn (zwd (α 130) 0 L) 7
      · rw [decide_eq_true q]
        exact zhasb_iff.2 (hi.2 q)
      · rw [decide_eq_false q]
        cases e : zhasb (α 166) (α 168) 0 L j with
        | true => exact absurd (hi.1 (zhasb_iff.1 e)) q
        | false => rfl
    have hfa : ∀ d z, zcall (d + 2) kX10_faultAsName [.ref (b + 129)] (z, zw b σ α lo φ) = some (some (.int (zI (-5))), (z, zw b σ α lo φ)) := fun d z => by rw [tX10_faultAsName hs hz0, eF]
    have hlf : ∀ d z, zcall (d + 3) kX12_lettersFrom [.ref (b + 165), .int (zI 0)] (z, zw b (zus σ 129 1 0) α lo φ) = some (some (.int (zI L)), (z, zw b (zus σ 129 1 0) α lo φ)) := fun d z => by rw [tX12_lettersFrom (by decide) h9 hz8, e9, eN]
    have hi0 : (0 : Int) ≤ 0 ∧ 0 + (L : Int) ≤ 120 := by omega
    refine ⟨.int (zI (zfst (fun n => decide (lo 3 n = zhn (zwd (α 130) 0 L) 7)) (fun n => (n : Int)) (-5) (σ 2 5).toNat 0)), zus σ 129 1 0, α, lo, φ, zus (zus σ 129 1 0) 165 9 0, α, lo, φ, fun z => ?_, fun z => ?_, zQR_e H⟩
    · rw [qX11_find rfl]
      repeat' (first | rfl | (exfalso; first | omega | contradiction) | split | (rw [zruns_N 400]; simp (disch := first | assumption | omega | decide | ((simp (disch := omega) only [zup_ne, zup_eq]); first | assumption | omega)) only [sX11_find_0, sX11_find_1, sX11_find_4, sX11_find_7, sX11_find_10, sX11_find_11, sX11_find_14, sX11_find_15, sX11_find_16, sX11_find_17, sX11_find_20, sX11_find_23, sX11_find_24, sX11_find_25, sX11_find_28, sX11_find_29, sX11_find_32, sX11_find_35, sX11_find_36, sX11_find_39, sX11_find_40, sX11_find_41, sX11_find_44, sX11_find_47, sX11_find_50, sX11_find_52, zkp_i, zkp_a, zkp_f, zkp_l, zkp_d, zkp_n, ycl_eq, zI_add, zI_sub, zI_mul, zI_neg, zI_inj, zI_lt, zI_le, zI_eq0, zI_lt0, zI_gt0, zI_le0, zI_ge0, yil_ok, yll_ok, yfl_ok, yis_ok, yls_ok, yfs_ok, y0_s, y1_s, ybo_ok, zset_w, zruns_if, zui_eq, zus_eq, zup_eq, Int.reduceAdd, Int.reduceSub, Int.reduceMul, Int.reduceNeg, Int.reduceLT, Int.reduceLE, Int.reduceEq, if_true, if_false, not_true_eq_false, not_false_eq_true, zw_0, zp_0_2, zw_1, zw_2, zp_2_5, zw_3, zp_3, zw_4, zp_4, zw_5, zp_5, zw_6, zp_6, zw_7, zp_7, zw_8, zw_9, zp_9_5, zw_10, zp_10, zw_11, zp_11, zw_12, zp_12, zw_13, zp_13, zw_14, zp_14, zw_15, zp_15_5, zw_16, zp_16, zw_17, zp_17, zw_18, zp_18, zw_19, zp_19, zw_20, zp_20, zw_65, zw_66, zp_66_5, zw_67, zp_67, zw_68, zp_68, zw_69, zp_69, zw_70, zp_70, zw_71, zp_71, zw_72, zw_73, zp_73_5, zw_74, zp_74, zw_75, zp_75, zw_76, zp_76, zw_77, zp_77, zw_78, zp_78, zw_79, zp_79_5, zw_80, zp_80, zw_81, zp_81, zw_82, zp_82, zw_83, zp_83, zw_84, zp_84, zw_129, zp_129_1, zw_130, zp_130, zw_131, zp_131_1, zw_132, zp_132, zw_133, zp_133_5, zp_133_6, zp_133_7, zw_134, zp_134, zw_135, zp_135, zw_136, zp_136, zw_137, zw_138, zp_138_1, zw_139, zp_139, zw_140, zp_140_1, zw_141, zp_141, zw_142, zp_142, zw_143, zw_144, zp_144_1, zw_145, zp_145, zw_146, zp_146_4, zw_147, zp_147, zw_148, zp_148, zw_149, zp_149, zw_150, zp_150, zw_151, zw_152, zp_152, zw_153, zp_153_1, zp_153_2, zp_153_3, zw_154, zp_154, zw_155, zp_155_1, zp_155_2, zp_155_3, zw_156, zp_156, zw_157, zp_157_1, zp_157_2, zp_157_3, zw_158, zp_158, zw_159, zp_159_1, zp_159_2, zp_159_3, zw_160, zp_160, zw_161, zp_161_1, zp_161_2, zp_161_3, zw_162, zp_162, zw_163, zp_163_1, zp_163_2, zp_163_3, zw_164, zp_164, yg0_0, yg0_1, yg0_2, yg0_3, yg0_4, yg1_0, yg1_1, yg1_2, yg1_3, yg2_0, yg2_1, yg2_2, yg3_0, yg3_1, yg4_0, yg5_0, yg5_1, yg5_2, yg5_3, yg5_4, yg5_5, yg6_0, yg6_1, yg6_2, yg6_3, yg6_4, yg6_5, yg7_0, yg7_1, yg7_2, yg7_3, yg7_4, yg7_5, yg7_6, yg7_7, yg8_0, yg8_1, yg8_2, yg8_3, yg9_0, yg9_1, yg9_2, yg9_3, yg9_4, yg9_5, yg10_0, yg10_1, yg11_0, yg11_1, yg11_2, yg11_3, yg11_4, yg11_5, yg11_6, yg11_7, yg11_8, yg11_9, yg11_10, yp0_0, yp0_1, yp0_2, yp0_3, yp0_4, yp1_0, yp1_1, yp1_2, yp1_3, yp2_0, yp2_1, yp2_2, yp3_0, yp3_1, yp4_0, yp5_0, yp5_1, yp5_2, yp5_3, yp5_4, yp5_5, yp6_0, yp6_1, yp6_2, yp6_3, yp6_4, yp6_5, yp7_0, yp7_1, yp7_2, yp7_3, yp7_4, yp7_5, yp7_6, yp7_7, yp8_0, yp8_1, yp8_2, yp8_3, yp9_0, yp9_1, yp9_2, yp9_3, yp9_4, yp9_5, yp10_0, yp10_1, yp11_0, yp11_1, yp11_2, yp11_3, yp11_4, yp11_5, yp11_6, yp11_7, yp11_8, yp11_9, yp11_10, hfa, tX10_empty k2, hL, tX10_wordAt (s := 0) (len := L) (by omega) (by omega) (by omega) hwt, tX5_withName (σ := zus σ 129 1 0) hcw hg hw8, e25]))
    · rw [qX12_find rfl]
      repeat' (first | rfl | (exfalso; first | omega | contradiction) | split | (rw [zruns_N 400]; simp (disch := first | assumption | omega | decide | ((simp (disch := omega) only [zup_ne, zup_eq]); first | assumption | omega)) only [sX12_find_0, sX12_find_1, sX12_find_2, sX12_find_5, sX12_find_6, sX12_find_7, sX12_find_10, sX12_find_11, sX12_find_12, sX12_find_13, sX12_find_16, sX12_find_17, sX12_find_20, sX12_find_21, sX12_find_22, sX12_find_25, sX12_find_27, sX12_find_30, sX12_find_31, sX12_find_32, sX12_find_33, sX12_find_36, zkp_i, zkp_a, zkp_f, zkp_l, zkp_d, zkp_n, ycl_eq, zI_add, zI_sub, zI_mul, zI_neg, zI_inj, zI_lt, zI_le, zI_eq0, zI_lt0, zI_gt0, zI_le0, zI_ge0, yil_ok, yll_ok, yfl_ok, yis_ok, yls_ok, yfs_ok, y0_s, y1_s, ybo_ok, zset_w, zruns_if, zui_eq, zus_eq, zup_eq, Int.reduceAdd, Int.reduceSub, Int.reduceMul, Int.reduceNeg, Int.reduceLT, Int.reduceLE, Int.reduceEq, if_true, if_false, not_true_eq_false, not_false_eq_true, zw_165, zp_165_2, zp_165_9, zp_165_10, zp_165_11, zp_165_12, zp_165_13, zp_165_14, zw_166, zp_166, zw_167, zp_167, zw_168, zp_168, zw_169, zp_169, zw_170, zp_170, zw_171, zp_171, zw_172, zp_172, zw_173, zp_173, zw_174, zp_174, zw_175, zp_175, zw_176, zp_176, zw_177, zp_177, zw_178, zp_178, zw_179, zp_179, yg12_0, yg12_1, yg12_2, yg12_3, yg12_4, yg12_5, yg12_6, yg12_7, yg12_8, yg12_9, yg12_10, yg12_11, yg12_12, yg12_13, yg12_14, yg12_15, yg12_16, yg12_17, yg12_18, yg12_19, yg12_20, yp12_0, yp12_1, yp12_2, yp12_3, yp12_4, yp12_5, yp12_6, yp12_7, yp12_8, yp12_9, yp12_10, yp12_11, yp12_12, yp12_13, yp12_14, yp12_15, yp12_16, yp12_17, yp12_18, yp12_19, yp12_20, hlf, e9, h165, tX12_noteBy (i := 0) (m := L) hi0 (by omega) hc6 hz6 hz8, eZ]))
  · have hfa : ∃ v : Int, 0 ≤ v ∧ v ≤ 120 ∧ ∀ d z, zcall (d + 2) kX10_faultAsName [.ref (b + 129)] (z, zw b σ α lo φ) = some (some (.int (zI v)), (z, zw b σ α lo φ)) := by
      have hV : 0 ≤ zfst (fun i => decide (7 ≤ i ∨ ¬ (97 ≤ α 130 i ∧ α 130 i ≤ 122))) (fun i => (i : Int)) (if 0 < σ 129 1 then -5 else 0) (σ 129 1).toNat 0 ∧ zfst (fun i => decide (7 ≤ i ∨ ¬ (97 ≤ α 130 i ∧ α 130 i ≤ 122))) (fun i => (i : Int)) (if 0 < σ 129 1 then -5 else 0) (σ 129 1).toNat 0 ≤ 120 := by
        rw [hLt]
        by_cases l0 : 0 < L
        · have hj : ∃ j : Nat, j < L ∧ (7 ≤ j ∨ ¬ (97 ≤ α 130 j ∧ α 130 j ≤ 122)) := by
            by_cases l7 : L ≤ 7
            · obtain ⟨j, j1, j2, _⟩ := zfirst (P := fun i => 97 ≤ α 130 i ∧ α 130 i ≤ 122) L (fun h => hok ⟨l0, l7, h⟩)
              exact ⟨j, j1, Or.inr j2⟩
            · exact ⟨7, by omega, Or.inl (Nat.le_refl 7)⟩
          obtain ⟨j, j1, j2⟩ := hj
          have := zfst_yes (p := fun i => decide (7 ≤ i ∨ ¬ (97 ≤ α 130 i ∧ α 130 i ≤ 122))) (r0 := if 0 < σ 129 1 then -5 else 0) L 0 j (by omega) (by omega) (decide_eq_true j2)
          omega
        · rw [show L = 0 by omega, zfst, if_neg (by omega)]
          decide
      exact ⟨_, hV.1, hV.2, fun d z => tX10_faultAsName hs hz0⟩
    obtain ⟨v, v0, v1, hfa⟩ := hfa
    refine ⟨.int (zI (-5)), zus σ 129 1 0, α, lo, φ, zus (zus σ 129 1 0) 165 9 0, α, lo, φ, fun z => ?_, fun z => ?_, zQR_e H⟩
    · rw [qX11_find rfl]
      repeat' (first | rfl | (exfalso; first | omega | contradiction) | split | (rw [zruns_N 400]; simp (disch := first | assumption | omega | decide | ((simp (disch := omega) only [zup_ne, zup_eq]); first | assumption | omega)) only [sX11_find_0, sX11_find_1, sX11_find_4, sX11_find_7, sX11_find_10, sX11_find_11, sX11_find_14, sX11_find_15, sX11_find_16, sX11_find_17, sX11_find_20, sX11_find_23, sX11_find_24, sX11_find_25, sX11_find_28, sX11_find_29, sX11_find_32, sX11_find_35, sX11_find_36, sX11_find_39, sX11_find_40, sX11_find_41, sX11_find_44, sX11_find_47, sX11_find_50, sX11_find_52, zkp_i, zkp_a, zkp_f, zkp_l, zkp_d, zkp_n, ycl_eq, zI_add, zI_sub, zI_mul, zI_neg, zI_inj, zI_lt, zI_le, zI_eq0, zI_lt0, zI_gt0, zI_le0, zI_ge0, yil_ok, yll_ok, yfl_ok, yis_ok, yls_ok, yfs_ok, y0_s, y1_s, ybo_ok, zset_w, zruns_if, zui_eq, zus_eq, zup_eq, Int.reduceAdd, Int.reduceSub, Int.reduceMul, Int.reduceNeg, Int.reduceLT, Int.reduceLE, Int.reduceEq, if_true, if_false, not_true_eq_false, not_false_eq_true, zw_0, zp_0_2, zw_1, zw_2, zp_2_5, zw_3, zp_3, zw_4, zp_4, zw_5, zp_5, zw_6, zp_6, zw_7, zp_7, zw_8, zw_9, zp_9_5, zw_10, zp_10, zw_11, zp_11, zw_12, zp_12, zw_13, zp_13, zw_14, zp_14, zw_15, zp_15_5, zw_16, zp_16, zw_17, zp_17, zw_18, zp_18, zw_19, zp_19, zw_20, zp_20, zw_65, zw_66, zp_66_5, zw_67, zp_67, zw_68, zp_68, zw_69, zp_69, zw_70, zp_70, zw_71, zp_71, zw_72, zw_73, zp_73_5, zw_74, zp_74, zw_75, zp_75, zw_76, zp_76, zw_77, zp_77, zw_78, zp_78, zw_79, zp_79_5, zw_80, zp_80, zw_81, zp_81, zw_82, zp_82, zw_83, zp_83, zw_84, zp_84, zw_129, zp_129_1, zw_130, zp_130, zw_131, zp_131_1, zw_132, zp_132, zw_133, zp_133_5, zp_133_6, zp_133_7, zw_134, zp_134, zw_135, zp_135, zw_136, zp_136, zw_137, zw_138, zp_138_1, zw_139, zp_139, zw_140, zp_140_1, zw_141, zp_141, zw_142, zp_142, zw_143, zw_144, zp_144_1, zw_145, zp_145, zw_146, zp_146_4, zw_147, zp_147, zw_148, zp_148, zw_149, zp_149, zw_150, zp_150, zw_151, zw_152, zp_152, zw_153, zp_153_1, zp_153_2, zp_153_3, zw_154, zp_154, zw_155, zp_155_1, zp_155_2, zp_155_3, zw_156, zp_156, zw_157, zp_157_1, zp_157_2, zp_157_3, zw_158, zp_158, zw_159, zp_159_1, zp_159_2, zp_159_3, zw_160, zp_160, zw_161, zp_161_1, zp_161_2, zp_161_3, zw_162, zp_162, zw_163, zp_163_1, zp_163_2, zp_163_3, zw_164, zp_164, yg0_0, yg0_1, yg0_2, yg0_3, yg0_4, yg1_0, yg1_1, yg1_2, yg1_3, yg2_0, yg2_1, yg2_2, yg3_0, yg3_1, yg4_0, yg5_0, yg5_1, yg5_2, yg5_3, yg5_4, yg5_5, yg6_0, yg6_1, yg6_2, yg6_3, yg6_4, yg6_5, yg7_0, yg7_1, yg7_2, yg7_3, yg7_4, yg7_5, yg7_6, yg7_7, yg8_0, yg8_1, yg8_2, yg8_3, yg9_0, yg9_1, yg9_2, yg9_3, yg9_4, yg9_5, yg10_0, yg10_1, yg11_0, yg11_1, yg11_2, yg11_3, yg11_4, yg11_5, yg11_6, yg11_7, yg11_8, yg11_9, yg11_10, yp0_0, yp0_1, yp0_2, yp0_3, yp0_4, yp1_0, yp1_1, yp1_2, yp1_3, yp2_0, yp2_1, yp2_2, yp3_0, yp3_1, yp4_0, yp5_0, yp5_1, yp5_2, yp5_3, yp5_4, yp5_5, yp6_0, yp6_1, yp6_2, yp6_3, yp6_4, yp6_5, yp7_0, yp7_1, yp7_2, yp7_3, yp7_4, yp7_5, yp7_6, yp7_7, yp8_0, yp8_1, yp8_2, yp8_3, yp9_0, yp9_1, yp9_2, yp9_3, yp9_4, yp9_5, yp10_0, yp10_1, yp11_0, yp11_1, yp11_2, yp11_3, yp11_4, yp11_5, yp11_6, yp11_7, yp11_8, yp11_9, yp11_10, hfa, tX10_empty k2]))
    · have hlf : ∀ d z, zcall (d + 3) kX12_lettersFrom [.ref (b + 165), .int (zI 0)] (z, zw b (zus σ 129 1 0) α lo φ) = some (some (.int (zI (zltn (σ 165 9) (α 168) 0))), (z, zw b (zus σ 129 1 0) α lo φ)) := fun d z => by rw [tX12_lettersFrom (by decide) h9 hz8, e9]
      have hN : zltn (σ 165 9) (α 168) 0 ≤ 121 := zfst_le 121 0
      have hp := fun j h => zfst_lt (p := fun n => !zlt (σ 165 9) (α 168) (0 + n)) 121 0 j (Nat.zero_le j) h
      have hp : ∀ j : Nat, j < zltn (σ 165 9) (α 168) 0 → (j : Int) < σ 165 9 ∧ 97 ≤ α 168 j ∧ α 168 j ≤ 122 := fun j h => by
        have := (hp j h).1
        unfold zlt at this
        have := of_decide_eq_true (Bool.not_eq_false' _ ▸ this)
        rw [Int.zero_add] at this
        exact this
      rw [qX12_find rfl]
      generalize zltn (σ 165 9) (α 168) 0 = N at hlf hN hp
      by_cases q : N = 0 ∨ N < L
      · repeat' (first | rfl | (exfalso; first | omega | contradiction) | split | (rw [zruns_N 400]; simp (disch := first | assumption | omega | decide | ((simp (disch := omega) only [zup_ne, zup_eq]); first | assumption | omega)) only [sX12_find_0, sX12_find_1, sX12_find_2, sX12_find_5, sX12_find_6, sX12_find_7, sX12_find_10, sX12_find_11, sX12_find_12, sX12_find_13, sX12_find_16, sX12_find_17, sX12_find_20, sX12_find_21, sX12_find_22, sX12_find_25, sX12_find_27, sX12_find_30, sX12_find_31, sX12_find_32, sX12_find_33, sX12_find_36, zkp_i, zkp_a, zkp_f, zkp_l, zkp_d, zkp_n, ycl_eq, zI_add, zI_sub, zI_mul, zI_neg, zI_inj, zI_lt, zI_le, zI_eq0, zI_lt0, zI_gt0, zI_le0, zI_ge0, yil_ok, yll_ok, yfl_ok, yis_ok, yls_ok, yfs_ok, y0_s, y1_s, ybo_ok, zset_w, zruns_if, zui_eq, zus_eq, zup_eq, Int.reduceAdd, Int.reduceSub, Int.reduceMul, Int.reduceNeg, Int.reduceLT, Int.reduceLE, Int.reduceEq, if_true, if_false, not_true_eq_false, not_false_eq_true, zw_165, zp_165_2, zp_165_9, zp_165_10, zp_165_11, zp_165_12, zp_165_13, zp_165_14, zw_166, zp_166, zw_167, zp_167, zw_168, zp_168, zw_169, zp_169, zw_170, zp_170, zw_171, zp_171, zw_172, zp_172, zw_173, zp_173, zw_174, zp_174, zw_175, zp_175, zw_176, zp_176, zw_177, zp_177, zw_178, zp_178, zw_179, zp_179, yg12_0, yg12_1, yg12_2, yg12_3, yg12_4, yg12_5, yg12_6, yg12_7, yg12_8, yg12_9, yg12_10, yg12_11, yg12_12, yg12_13, yg12_14, yg12_15, yg12_16, yg12_17, yg12_18, yg12_19, yg12_20, yp12_0, yp12_1, yp12_2, yp12_3, yp12_4, yp12_5, yp12_6, yp12_7, yp12_8, yp12_9, yp12_10, yp12_11, yp12_12, yp12_13, yp12_14, yp12_15, yp12_16, yp12_17, yp12_18, yp12_19, yp12_20, hlf, e9, h165]))
      · have e : N = L := by
          rcases Nat.lt_or_ge L N with a | a
          · have := (hp L a).1
            omega
          · omega
        subst e
        have l7 : 7 < N := by
          rcases Nat.lt_or_ge 7 N with a | a
          · exact a
          · exact absurd ⟨by omega, a, fun i hi => by rw [(t4 i (by omega) (by omega)).1]; exact (hp i hi).2⟩ hok
        have eZ : zfst (fun n => zhasb (α 166) (α 168) 0 N n) (fun n => (n : Int)) (-5) (α 166 0).toNat 0 = -5 := by
          refine zfst_no _ 0 (fun j a c => ?_)
          cases e : zhasb (α 166) (α 168) 0 N j with
          | true =>
            have h1 := (zhasb_iff.1 e).1
            have h2 : znl (α 166) j ≤ 7 := zfst_le 7 0
            omega
          | false => rfl
        have hi0 : (0 : Int) ≤ 0 ∧ 0 + (N : Int) ≤ 120 := by omega
        repeat' (first | rfl | (exfalso; first | omega | contradiction) | split | (rw [zruns_N 400]; simp (disch := first | assumption | omega | decide | ((simp (disch := omega) only [zup_ne, zup_eq]); first | assumption | omega)) only [sX12_find_0, sX12_find_1, sX12_find_2, sX12_find_5, sX12_find_6, sX12_find_7, sX12_find_10, sX12_find_11, sX12_find_12, sX12_find_13, sX12_find_16, sX12_find_17, sX12_find_20, sX12_find_21, sX12_find_22, sX12_find_25, sX12_find_27, sX12_find_30, sX12_find_31, sX12_find_32, sX12_find_33, sX12_find_36, zkp_i, zkp_a, zkp_f, zkp_l, zkp_d, zkp_n, ycl_eq, zI_add, zI_sub, zI_mul, zI_neg, zI_inj, zI_lt, zI_le, zI_eq0, zI_lt0, zI_gt0, zI_le0, zI_ge0, yil_ok, yll_ok, yfl_ok, yis_ok, yls_ok, yfs_ok, y0_s, y1_s, ybo_ok, zset_w, zruns_if, zui_eq, zus_eq, zup_eq, Int.reduceAdd, Int.reduceSub, Int.reduceMul, Int.reduceNeg, Int.reduceLT, Int.reduceLE, Int.reduceEq, if_true, if_false, not_true_eq_false, not_false_eq_true, zw_165, zp_165_2, zp_165_9, zp_165_10, zp_165_11, zp_165_12, zp_165_13, zp_165_14, zw_166, zp_166, zw_167, zp_167, zw_168, zp_168, zw_169, zp_169, zw_170, zp_170, zw_171, zp_171, zw_172, zp_172, zw_173, zp_173, zw_174, zp_174, zw_175, zp_175, zw_176, zp_176, zw_177, zp_177, zw_178, zp_178, zw_179, zp_179, yg12_0, yg12_1, yg12_2, yg12_3, yg12_4, yg12_5, yg12_6, yg12_7, yg12_8, yg12_9, yg12_10, yg12_11, yg12_12, yg12_13, yg12_14, yg12_15, yg12_16, yg12_17, yg12_18, yg12_19, yg12_20, yp12_0, yp12_1, yp12_2, yp12_3, yp12_4, yp12_5, yp12_6, yp12_7, yp12_8, yp12_9, yp12_10, yp12_11, yp12_12, yp12_13, yp12_14, yp12_15, yp12_16, yp12_17, yp12_18, yp12_19, yp12_20, hlf, e9, h165, tX12_noteBy (i := 0) (m := N) hi0 (by omega) hc6 hz6 hz8, eZ]))
end FIND
