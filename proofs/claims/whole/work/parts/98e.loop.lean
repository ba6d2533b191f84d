/-! ===== the law's loop, its beginning ===== -/
def zTL : Int → Nat := fun q : Int => (if q = 0 then 276 else (if q = 1 then 299 else (if q = 2 then 312 else (if q = 3 then 355 else (if q = 4 then 388 else (if q = 5 then 421 else (if q = 6 then 454 else (if q = 7 then 467 else (if q = 8 then 490 else (if q = 9 then 513 else (if q = 10 then 536 else (if q = 11 then 559 else (if q = 12 then 602 else (if q = 13 then 635 else (if q = 14 then 668 else (if q = 15 then 701 else (if q = 16 then 734 else (if q = 17 then 767 else (if q = 18 then 790 else (if q = 19 then 823 else (if q = 20 then 846 else (if q = 21 then 880 else (if q = 22 then 924 else (if q = 23 then 968 else (if q = 24 then 1002 else (if q = 25 then 1035 else (if q = 26 then 1068 else (if q = 27 then 1101 else (if q = 28 then 1135 else (if q = 29 then 1168 else (if q = 30 then 1212 else (if q = 31 then 1246 else (if q = 32 then 1269 else (if q = 33 then 1292 else (if q = 34 then 1335 else (if q = 35 then 1368 else (if q = 36 then 1411 else (if q = 37 then 1434 else (if q = 38 then 1467 else (if q = 39 then 1500 else (if q = 40 then 1523 else (if q = 41 then 1536 else (if q = 42 then 1569 else (if q = 43 then 1602 else (if q = 44 then 1635 else (if q = 45 then 1668 else (if q = 46 then 1691 else (if q = 47 then 1724 else (if q = 48 then 1747 else (if q = 49 then 1790 else (if q = 50 then 1863 else (if q = 51 then 1897 else (if q = 52 then 1960 else (if q = 53 then 1993 else (if q = 54 then 2036 else (if q = 55 then 2079 else (if q = 56 then 2092 else 2105)))))))))))))))))))))))))))))))))))))))))))))))))))))))))
theorem zTL_d {q : Int} (h : q < 0 ∨ 57 ≤ q) : zTL q = 2105 := by
  unfold zTL
  rw [if_neg (by omega)] ; rw [if_neg (by omega)] ; rw [if_neg (by omega)] ; rw [if_neg (by omega)] ; rw [if_neg (by omega)] ; rw [if_neg (by omega)] ; rw [if_neg (by omega)] ; rw [if_neg (by omega)] ; rw [if_neg (by omega)] ; rw [if_neg (by omega)] ; rw [if_neg (by omega)] ; rw [if_neg (by omega)] ; rw [if_neg (by omega)] ; rw [if_neg (by omega)] ; rw [if_neg (by omega)] ; rw [if_neg (by omega)] ; rw [if_neg (by omega)] ; rw [if_neg (by omega)] ; rw [if_neg (by omega)] ; rw [if_neg (by omega)] ; rw [if_neg (by omega)] ; rw [if_neg (by omega)] ; rw [if_neg (by omega)] ; rw [if_neg (by omega)] ; rw [if_neg (by omega)] ; rw [if_neg (by omega)] ; rw [if_neg (by omega)] ; rw [if_neg (by omega)] ; rw [if_neg (by omega)] ; rw [if_neg (by omega)] ; rw [if_neg (by omega)] ; rw [if_neg (by omega)] ; rw [if_neg (by omega)] ; rw [if_neg (by omega)] ; rw [if_neg (by omega)] ; rw [if_neg (by omega)] ; rw [if_neg (by omega)] ; rw [if_neg (by omega)] ; rw [if_neg (by omega)] ; rw [if_neg (by omega)] ; rw [if_neg (by omega)] ; rw [if_neg (by omega)] ; rw [if_neg (by omega)] ; rw [if_neg (by omega)] ; rw [if_neg (by omega)] ; rw [if_neg (by omega)] ; rw [if_neg (by omega)] ; rw [if_neg (by omega)] ; rw [if_neg (by omega)] ; rw [if_neg (by omega)] ; rw [if_neg (by omega)] ; rw [if_neg (by omega)] ; rw [if_neg (by omega)] ; rw [if_neg (by omega)] ; rw [if_neg (by omega)] ; rw [if_neg (by omega)] ; rw [if_neg (by omega)]
section LAWL
variable {b sb L : Nat} {G : Int → Int} {z : Nat × Nat}
theorem law_case {i : Nat} {q : Int} {σ : Nat → Nat → Int} {α lo : Nat → Int → Int} {φ : Nat → Int → UInt32} (hL : 6 * i + 6 ≤ L) (hL2 : L ≤ 3072) (hsb : sb < b) (hG : ∀ j, zr (G j)) (H : zQR σ α lo) : ∃ (σ' : Nat → Nat → Int) (α' lo' : Nat → Int → Int) (φ' : Nat → Int → UInt32), zQR σ' α' lo' ∧ zruns (zlw 20 b) 13 2 cL_law (zTL q, [some (.ref sb), some (.ref b), some (.ref (b + 165)), some (.int (zI (6 * (i : Int))))], [], (z, zlaw b sb (.inl (9, L, .inl (zAI G))) (zw b σ α lo φ))) = zruns (zlw 20 b) 13 2 cL_law (2105, [some (.ref sb), some (.ref b), some (.ref (b + 165)), some (.int (zI (6 * (i : Int))))], [], (z, zlaw b sb (.inl (9, L, .inl (zAI G))) (zw b σ' α' lo' φ'))) := by
  by_cases q0 : q = 0
  · rw [q0, show zTL 0 = 276 from rfl]
    exact law_0 hL hL2 hsb hG H
  by_cases q1 : q = 1
  · rw [q1, show zTL 1 = 299 from rfl]
    exact law_1 hL hL2 hsb hG H
  by_cases q2 : q = 2
  · rw [q2, show zTL 2 = 312 from rfl]
    exact law_2 hL hL2 hsb hG H
  by_cases q3 : q = 3
  · rw [q3, show zTL 3 = 355 from rfl]
    exact law_3 hL hL2 hsb hG H
  by_cases q4 : q = 4
  · rw [q4, show zTL 4 = 388 from rfl]
    exact law_4 hL hL2 hsb hG H
  by_cases q5 : q = 5
  · rw [q5, show zTL 5 = 421 from rfl]
    exact law_5 hL hL2 hsb hG H
  by_cases q6 : q = 6
  · rw [q6, show zTL 6 = 454 from rfl]
    exact law_6 hL hL2 hsb hG H
  by_cases q7 : q = 7
  · rw [q7, show zTL 7 = 467 from rfl]
    exact law_7 hL hL2 hsb hG H
  by_cases q8 : q = 8
  · rw [q8, show zTL 8 = 490 from rfl]
    exact law_8 hL hL2 hsb hG H
  by_cases q9 : q = 9
  · rw [q9, show zTL 9 = 513 from rfl]
    exact law_9 hL hL2 hsb hG H
  by_cases q10 : q = 10
  · rw [q10, show zTL 10 = 536 from rfl]
    exact law_10 hL hL2 hsb hG H
  by_cases q11 : q = 11
  · rw [q11, show zTL 11 = 559 from rfl]
    exact law_11 hL hL2 hsb hG H
  by_cases q12 : q = 12
  · rw [q12, show zTL 12 = 602 from rfl]
    exact law_12 hL hL2 hsb hG H
  by_cases q13 : q = 13
  · rw [q13, show zTL 13 = 635 from rfl]
    exact law_13 hL hL2 hsb hG H
  by_cases q14 : q = 14
  · rw [q14, show zTL 14 = 668 from rfl]
    exact law_14 hL hL2 hsb hG H
  by_cases q15 : q = 15
  · rw [q15, show zTL 15 = 701 from rfl]
    exact law_15 hL hL2 hsb hG H
  by_cases q16 : q = 16
  · rw [q16, show zTL 16 = 734 from rfl]
    exact law_16 hL hL2 hsb hG H
  by_cases q17 : q = 17
  · rw [q17, show zTL 17 = 767 from rfl]
    exact law_17 hL hL2 hsb hG H
  by_cases q18 : q = 18
  · rw [q18, show zTL 18 = 790 from rfl]
    exact law_18 hL hL2 hsb hG H
  by_cases q19 : q = 19
  · rw [q19, show zTL 19 = 823 from rfl]
    exact law_19 hL hL2 hsb hG H
  by_cases q20 : q = 20
  · rw [q20, show zTL 20 = 846 from rfl]
    exact law_20 hL hL2 hsb hG H
  by_cases q21 : q = 21
  · rw [q21, show zTL 21 = 880 from rfl]
    exact law_21 hL hL2 hsb hG H
  by_cases q22 : q = 22
  · rw [q22, show zTL 22 = 924 from rfl]
    exact law_22 hL hL2 hsb hG H
  by_cases q23 : q = 23
  · rw [q23, show zTL 23 = 968 from rfl]
    exact law_23 hL hL2 hsb hG H
  by_cases q24 : q = 24
  · rw [q24, show zTL 24 = 1002 from rfl]
    exact law_24 hL hL2 hsb hG H
  by_cases q25 : q = 25
  · rw [q25, show zTL 25 = 1035 from rfl]
    exact law_25 hL hL2 hsb hG H
  by_cases q26 : q = 26
  · rw [q26, show zTL 26 = 1068 from rfl]
    exact law_26 hL hL2 hsb hG H
  by_cases q27 : q = 27
  · rw [q27, show zTL 27 = 1101 from rfl]
    exact law_27 hL hL2 hsb hG H
  by_cases q28 : q = 28
  · rw [q28, show zTL 28 = 1135 from rfl]
    exact law_28 hL hL2 hsb hG H
  by_cases q29 : q = 29
  · rw [q29, show zTL 29 = 1168 from rfl]
    exact law_29 hL hL2 hsb hG H
  by_cases q30 : q = 30
  · rw [q30, show zTL 30 = 1212 from rfl]
    exact law_30 hL hL2 hsb hG H
  by_cases q31 : q = 31
  · rw [q31, show zTL 31 = 1246 from rfl]
    exact law_31 hL hL2 hsb hG H
  by_cases q32 : q = 32
  · rw [q32, show zTL 32 = 1269 from rfl]
    exact law_32 hL hL2 hsb hG H
  by_cases q33 : q = 33
  · rw [q33, show zTL 33 = 1292 from rfl]
    exact law_33 hL hL2 hsb hG H
  by_cases q34 : q = 34
  · rw [q34, show zTL 34 = 1335 from rfl]
    exact law_34 hL hL2 hsb hG H
  by_cases q35 : q = 35
  · rw [q35, show zTL 35 = 1368 from rfl]
    exact law_35 hL hL2 hsb hG H
  by_cases q36 : q = 36
  · rw [q36, show zTL 36 = 1411 from rfl]
    exact law_36 hL hL2 hsb hG H
  by_cases q37 : q = 37
  · rw [q37, show zTL 37 = 1434 from rfl]
    exact law_37 hL hL2 hsb hG H
  by_cases q38 : q = 38
  · rw [q38, show zTL 38 = 1467 from rfl]
    exact law_38 hL hL2 hsb hG H
  by_cases q39 : q = 39
  · rw [q39, show zTL 39 = 1500 from rfl]
    exact law_39 hL hL2 hsb hG H
  by_cases q40 : q = 40
  · rw [q40, show zTL 40 = 1523 from rfl]
    exact law_40 hL hL2 hsb hG H
  by_cases q41 : q = 41
  · rw [q41, show zTL 41 = 1536 from rfl]
    exact law_41 hL hL2 hsb hG H
  by_cases q42 : q = 42
  · rw [q42, show zTL 42 = 1569 from rfl]
    exact law_42 hL hL2 hsb hG H
  by_cases q43 : q = 43
  · rw [q43, show zTL 43 = 1602 from rfl]
    exact law_43 hL hL2 hsb hG H
  by_cases q44 : q = 44
  · rw [q44, show zTL 44 = 1635 from rfl]
    exact law_44 hL hL2 hsb hG H
  by_cases q45 : q = 45
  · rw [q45, show zTL 45 = 1668 from rfl]
    exact law_45 hL hL2 hsb hG H
  by_cases q46 : q = 46
  · rw [q46, show zTL 46 = 1691 from rfl]
    exact law_46 hL hL2 hsb hG H
  by_cases q47 : q = 47
  · rw [q47, show zTL 47 = 1724 from rfl]
    exact law_47 hL hL2 hsb hG H
  by_cases q48 : q = 48
  · rw [q48, show zTL 48 = 1747 from rfl]
    exact law_48 hL hL2 hsb hG H
  by_cases q49 : q = 49
  · rw [q49, show zTL 49 = 1790 from rfl]
    exact law_49 hL hL2 hsb hG H
  by_cases q50 : q = 50
  · rw [q50, show zTL 50 = 1863 from rfl]
    exact law_50 hL hL2 hsb hG H
  by_cases q51 : q = 51
  · rw [q51, show zTL 51 = 1897 from rfl]
    exact law_51 hL hL2 hsb hG H
  by_cases q52 : q = 52
  · rw [q52, show zTL 52 = 1960 from rfl]
    exact law_52 hL hL2 hsb hG H
  by_cases q53 : q = 53
  · rw [q53, show zTL 53 = 1993 from rfl]
    exact law_53 hL hL2 hsb hG H
  by_cases q54 : q = 54
  · rw [q54, show zTL 54 = 2036 from rfl]
    exact law_54 hL hL2 hsb hG H
  by_cases q55 : q = 55
  · rw [q55, show zTL 55 = 2079 from rfl]
    exact law_55 hL hL2 hsb hG H
  by_cases q56 : q = 56
  · rw [q56, show zTL 56 = 2092 from rfl]
    exact law_56 hL hL2 hsb hG H
  rw [zTL_d (q := q) (by omega)]
  exact ⟨σ, α, lo, φ, H, rfl⟩
theorem law_loop (hL2 : L ≤ 3072) (hsb : sb < b) (hG : ∀ j, zr (G j)) : ∀ (n i : Nat), L ≤ 6 * (i + n) → 6 * i ≤ L + 6 → ∀ (σ : Nat → Nat → Int) (α lo : Nat → Int → Int) (φ : Nat → Int → UInt32), zQR σ α lo → ∃ g, zruns (zlw 20 b) 13 2 cL_law (18, [some (.ref sb), some (.ref b), some (.ref (b + 165)), some (.int (zI (6 * (i : Int))))], [], (z, zlaw b sb (.inl (9, L, .inl (zAI G))) (zw b σ α lo φ))) = some (some (.int (zI 1)), (z, g)) := by
  intro n
  induction n with
  | zero =>
    intro i hi hib σ α lo φ H
    refine ⟨zlaw b sb (.inl (9, L, .inl (zAI G))) (zw b σ α lo φ), ?_⟩
    rw [zruns_N 400]
    simp (disch := first | assumption | omega | decide | ((simp (disch := omega) only [zup_ne, zup_eq]); first | assumption | omega)) only [sL_law_18, sL_law_19, sL_law_20, sL_law_21, sL_law_23, sL_law_24, zkp_i, zkp_a, zkp_f, zkp_l, zkp_d, zkp_n, ycl_eq, zI_add, zI_sub, zI_mul, zI_neg, zI_inj, zI_lt, zI_le, zI_eq0, zI_lt0, zI_gt0, zI_le0, zI_ge0, yil_ok, yll_ok, yfl_ok, yis_ok, yls_ok, yfs_ok, y0_s, y1_s, ybo_ok, zset_w, zruns_if, zui_eq, zus_eq, zup_eq, Int.reduceAdd, Int.reduceSub, Int.reduceMul, Int.reduceNeg, Int.reduceLT, Int.reduceLE, Int.reduceEq, if_true, if_false, not_true_eq_false, not_false_eq_true, zw_0, zp_0_2, zw_1, zw_2, zp_2_5, zw_3, zp_3, zw_4, zp_4, zw_5, zp_5, zw_6, zp_6, zw_7, zp_7, zw_8, zw_9, zp_9_5, zw_10, zp_10, zw_11, zp_11, zw_12, zp_12, zw_13, zp_13, zw_14, zp_14, zw_15, zp_15_5, zw_16, zp_16, zw_17, zp_17, zw_18, zp_18, zw_19, zp_19, zw_20, zp_20, zw_65, zw_66, zp_66_5, zw_67, zp_67, zw_68, zp_68, zw_69, zp_69, zw_70, zp_70, zw_71, zp_71, zw_72, zw_73, zp_73_5, zw_74, zp_74, zw_75, zp_75, zw_76, zp_76, zw_77, zp_77, zw_78, zp_78, zw_79, zp_79_5, zw_80, zp_80, zw_81, zp_81, zw_82, zp_82, zw_83, zp_83, zw_84, zp_84, zw_129, zp_129_1, zw_130, zp_130, zw_131, zp_131_1, zw_132, zp_132, zw_133, zp_133_5, zp_133_6, zp_133_7, zw_134, zp_134, zw_135, zp_135, zw_136, zp_136, zw_137, zw_138, zp_138_1, zw_139, zp_139, zw_140, zp_140_1, zw_141, zp_141, zw_142, zp_142, zw_143, zw_144, zp_144_1, zw_145, zp_145, zw_146, zp_146_4, zw_147, zp_147, zw_148, zp_148, zw_149, zp_149, zw_150, zp_150, zw_151, zw_152, zp_152, zw_153, zp_153_1, zp_153_2, zp_153_3, zw_154, zp_154, zw_155, zp_155_1, zp_155_2, zp_155_3, zw_156, zp_156, zw_157, zp_157_1, zp_157_2, zp_157_3, zw_158, zp_158, zw_159, zp_159_1, zp_159_2, zp_159_3, zw_160, zp_160, zw_161, zp_161_1, zp_161_2, zp_161_3, zw_162, zp_162, zw_163, zp_163_1, zp_163_2, zp_163_3, zw_164, zp_164, yg0_0, yg0_1, yg0_2, yg0_3, yg0_4, yg1_0, yg1_1, yg1_2, yg1_3, yg2_0, yg2_1, yg2_2, yg3_0, yg3_1, yg4_0, yg5_0, yg5_1, yg5_2, yg5_3, yg5_4, yg5_5, yg6_0, yg6_1, yg6_2, yg6_3, yg6_4, yg6_5, yg7_0, yg7_1, yg7_2, yg7_3, yg7_4, yg7_5, yg7_6, yg7_7, yg8_0, yg8_1, yg8_2, yg8_3, yg9_0, yg9_1, yg9_2, yg9_3, yg9_4, yg9_5, yg10_0, yg10_1, yg11_0, yg11_1, yg11_2, yg11_3, yg11_4, yg11_5, yg11_6, yg11_7, yg11_8, yg11_9, yg11_10, yp0_0, yp0_1, yp0_2, yp0_3, yp0_4, yp1_0, yp1_1, yp1_2, yp1_3, yp2_0, yp2_1, yp2_2, yp3_0, yp3_1, yp4_0, yp5_0, yp5_1, yp5_2, yp5_3, yp5_4, yp5_5, yp6_0, yp6_1, yp6_2, yp6_3, yp6_4, yp6_5, yp7_0, yp7_1, yp7_2, yp7_3, yp7_4, yp7_5, yp7_6, yp7_7, yp8_0, yp8_1, yp8_2, yp8_3, yp9_0, yp9_1, yp9_2, yp9_3, yp9_4, yp9_5, yp10_0, yp10_1, yp11_0, yp11_1, yp11_2, yp11_3, yp11_4, yp11_5, yp11_6, yp11_7, yp11_8, yp11_9, yp11_10, zlaw_s hsb, yle_s]
    rw [if_pos (by omega)]
    rw [zruns_N 400]
    simp (disch := first | assumption | omega | decide | ((simp (disch := omega) only [zup_ne, zup_eq]); first | assumption | omega)) only [sL_law_2111, sL_law_2112, zkp_i, zkp_a, zkp_f, zkp_l, zkp_d, zkp_n, ycl_eq, zI_add, zI_sub, zI_mul, zI_neg, zI_inj, zI_lt, zI_le, zI_eq0, zI_lt0, zI_gt0, zI_le0, zI_ge0, yil_ok, yll_ok, yfl_ok, yis_ok, yls_ok, yfs_ok, y0_s, y1_s, ybo_ok, zset_w, zruns_if, zui_eq, zus_eq, zup_eq, Int.reduceAdd, Int.reduceSub, Int.reduceMul, Int.reduceNeg, Int.reduceLT, Int.reduceLE, Int.reduceEq, if_true, if_false, not_true_eq_false, not_false_eq_true, zw_0, zp_0_2, zw_1, zw_2, zp_2_5, zw_3, zp_3, zw_4, zp_4, zw_5, zp_5, zw_6, zp_6, zw_7, zp_7, zw_8, zw_9, zp_9_5, zw_10, zp_10, zw_11, zp_11, zw_12, zp_12, zw_13, zp_13, zw_14, zp_14, zw_15, zp_15_5, zw_16, zp_16, zw_17, zp_17, zw_18, zp_18, zw_19, zp_19, zw_20, zp_20, zw_65, zw_66, zp_66_5, zw_67, zp_67, zw_68, zp_68, zw_69, zp_69, zw_70, zp_70, zw_71, zp_71, zw_72, zw_73, zp_73_5, zw_74, zp_74, zw_75, zp_75, zw_76, zp_76, zw_77, zp_77, zw_78, zp_78, zw_79, zp_79_5, zw_80, zp_80, zw_81, zp_81, zw_82, zp_82, zw_83, zp_83, zw_84, zp_84, zw_129, zp_129_1, zw_130, zp_130, zw_131, zp_131_1, zw_132, zp_132, zw_133, zp_133_5, zp_133_6, zp_133_7, zw_134, zp_134, zw_135, zp_135, zw_136, zp_136, zw_137, zw_138, zp_138_1, zw_139, zp_139, zw_140, zp_140_1, zw_141, zp_141, zw_142, zp_142, zw_143, zw_144, zp_144_1, zw_145, zp_145, zw_146, zp_146_4, zw_147, zp_147, zw_148, zp_148, zw_149, zp_149, zw_150, zp_150, zw_151, zw_152, zp_152, zw_153, zp_153_1, zp_153_2, zp_153_3, zw_154, zp_154, zw_155, zp_155_1, zp_155_2, zp_155_3, zw_156, zp_156, zw_157, zp_157_1, zp_157_2, zp_157_3, zw_158, zp_158, zw_159, zp_159_1, zp_159_2, zp_159_3, zw_160, zp_160, zw_161, zp_161_1, zp_161_2, zp_161_3, zw_162, zp_162, zw_163, zp_163_1, zp_163_2, zp_163_3, zw_164, zp_164, yg0_0, yg0_1, yg0_2, yg0_3, yg0_4, yg1_0, yg1_1, yg1_2, yg1_3, yg2_0, yg2_1, yg2_2, yg3_0, yg3_1, yg4_0, yg5_0, yg5_1, yg5_2, yg5_3, yg5_4, yg5_5, yg6_0, yg6_1, yg6_2, yg6_3, yg6_4, yg6_5, yg7_0, yg7_1, yg7_2, yg7_3, yg7_4, yg7_5, yg7_6, yg7_7, yg8_0, yg8_1, yg8_2, yg8_3, yg9_0, yg9_1, yg9_2, yg9_3, yg9_4, yg9_5, yg10_0, yg10_1, yg11_0, yg11_1, yg11_2, yg11_3, yg11_4, yg11_5, yg11_6, yg11_7, yg11_8, yg11_9, yg11_10, yp0_0, yp0_1, yp0_2, yp0_3, yp0_4, yp1_0, yp1_1, yp1_2, yp1_3, yp2_0, yp2_1, yp2_2, yp3_0, yp3_1, yp4_0, yp5_0, yp5_1, yp5_2, yp5_3, yp5_4, yp5_5, yp6_0, yp6_1, yp6_2, yp6_3, yp6_4, yp6_5, yp7_0, yp7_1, yp7_2, yp7_3, yp7_4, yp7_5, yp7_6, yp7_7, yp8_0, yp8_1, yp8_2, yp8_3, yp9_0, yp9_1, yp9_2, yp9_3, yp9_4, yp9_5, yp10_0, yp10_1, yp11_0, yp11_1, yp11_2, yp11_3, yp11_4, yp11_5, yp11_6, yp11_7, yp11_8, yp11_9, yp11_10]
  | succ n ih =>
    intro i hi hib σ α lo φ H
    by_cases hq : 6 * i + 6 ≤ L
    · obtain ⟨q, hqe⟩ : ∃ q : Int, q = (zI (G (6 * (i : Int))) &&& zI 63).toInt := ⟨_, rfl⟩
      obtain ⟨σ', α', lo', φ', H', hr⟩ := law_case (z := z) (φ := φ) (q := q) hq hL2 hsb hG H
      obtain ⟨g, hg⟩ := ih (i + 1) (by omega) (by omega) σ' α' lo' φ' H'
      refine ⟨g, Eq.trans ?_ (hr.trans (Eq.trans ?_ hg))⟩
      · rw [zruns_N 400]
        simp (disch := first | assumption | omega | decide | ((simp (disch := omega) only [zup_ne, zup_eq]); first | assumption | omega)) only [sL_law_18, sL_law_19, sL_law_20, sL_law_21, sL_law_23, sL_law_24, zkp_i, zkp_a, zkp_f, zkp_l, zkp_d, zkp_n, ycl_eq, zI_add, zI_sub, zI_mul, zI_neg, zI_inj, zI_lt, zI_le, zI_eq0, zI_lt0, zI_gt0, zI_le0, zI_ge0, yil_ok, yll_ok, yfl_ok, yis_ok, yls_ok, yfs_ok, y0_s, y1_s, ybo_ok, zset_w, zruns_if, zui_eq, zus_eq, zup_eq, Int.reduceAdd, Int.reduceSub, Int.reduceMul, Int.reduceNeg, Int.reduceLT, Int.reduceLE, Int.reduceEq, if_true, if_false, not_true_eq_false, not_false_eq_true, zw_0, zp_0_2, zw_1, zw_2, zp_2_5, zw_3, zp_3, zw_4, zp_4, zw_5, zp_5, zw_6, zp_6, zw_7, zp_7, zw_8, zw_9, zp_9_5, zw_10, zp_10, zw_11, zp_11, zw_12, zp_12, zw_13, zp_13, zw_14, zp_14, zw_15, zp_15_5, zw_16, zp_16, zw_17, zp_17, zw_18, zp_18, zw_19, zp_19, zw_20, zp_20, zw_65, zw_66, zp_66_5, zw_67, zp_67, zw_68, zp_68, zw_69, zp_69, zw_70, zp_70, zw_71, zp_71, zw_72, zw_73, zp_73_5, zw_74, zp_74, zw_75, zp_75, zw_76, zp_76, zw_77, zp_77, zw_78, zp_78, zw_79, zp_79_5, zw_80, zp_80, zw_81, zp_81, zw_82, zp_82, zw_83, zp_83, zw_84, zp_84, zw_129, zp_129_1, zw_130, zp_130, zw_131, zp_131_1, zw_132, zp_132, zw_133, zp_133_5, zp_133_6, zp_133_7, zw_134, zp_134, zw_135, zp_135, zw_136, zp_136, zw_137, zw_138, zp_138_1, zw_139, zp_139, zw_140, zp_140_1, zw_141, zp_141, zw_142, zp_142, zw_143, zw_144, zp_144_1, zw_145, zp_145, zw_146, zp_146_4, zw_147, zp_147, zw_148, zp_148, zw_149, zp_149, zw_150, zp_150, zw_151, zw_152, zp_152, zw_153, zp_153_1, zp_153_2, zp_153_3, zw_154, zp_154, zw_155, zp_155_1, zp_155_2, zp_155_3, zw_156, zp_156, zw_157, zp_157_1, zp_157_2, zp_157_3, zw_158, zp_158, zw_159, zp_159_1, zp_159_2, zp_159_3, zw_160, zp_160, zw_161, zp_161_1, zp_161_2, zp_161_3, zw_162, zp_162, zw_163, zp_163_1, zp_163_2, zp_163_3, zw_164, zp_164, yg0_0, yg0_1, yg0_2, yg0_3, yg0_4, yg1_0, yg1_1, yg1_2, yg1_3, yg2_0, yg2_1, yg2_2, yg3_0, yg3_1, yg4_0, yg5_0, yg5_1, yg5_2, yg5_3, yg5_4, yg5_5, yg6_0, yg6_1, yg6_2, yg6_3, yg6_4, yg6_5, yg7_0, yg7_1, yg7_2, yg7_3, yg7_4, yg7_5, yg7_6, yg7_7, yg8_0, yg8_1, yg8_2, yg8_3, yg9_0, yg9_1, yg9_2, yg9_3, yg9_4, yg9_5, yg10_0, yg10_1, yg11_0, yg11_1, yg11_2, yg11_3, yg11_4, yg11_5, yg11_6, yg11_7, yg11_8, yg11_9, yg11_10, yp0_0, yp0_1, yp0_2, yp0_3, yp0_4, yp1_0, yp1_1, yp1_2, yp1_3, yp2_0, yp2_1, yp2_2, yp3_0, yp3_1, yp4_0, yp5_0, yp5_1, yp5_2, yp5_3, yp5_4, yp5_5, yp6_0, yp6_1, yp6_2, yp6_3, yp6_4, yp6_5, yp7_0, yp7_1, yp7_2, yp7_3, yp7_4, yp7_5, yp7_6, yp7_7, yp8_0, yp8_1, yp8_2, yp8_3, yp9_0, yp9_1, yp9_2, yp9_3, yp9_4, yp9_5, yp10_0, yp10_1, yp11_0, yp11_1, yp11_2, yp11_3, yp11_4, yp11_5, yp11_6, yp11_7, yp11_8, yp11_9, yp11_10, zlaw_s hsb, yle_s]
        rw [if_neg (by omega)]
        rw [zruns_N 400]
        simp (disch := first | assumption | omega | decide | ((simp (disch := omega) only [zup_ne, zup_eq]); first | assumption | omega)) only [sL_law_27, sL_law_28, sL_law_29, sL_law_30, sL_law_32, zkp_i, zkp_a, zkp_f, zkp_l, zkp_d, zkp_n, ycl_eq, zI_add, zI_sub, zI_mul, zI_neg, zI_inj, zI_lt, zI_le, zI_eq0, zI_lt0, zI_gt0, zI_le0, zI_ge0, yil_ok, yll_ok, yfl_ok, yis_ok, yls_ok, yfs_ok, y0_s, y1_s, ybo_ok, zset_w, zruns_if, zui_eq, zus_eq, zup_eq, Int.reduceAdd, Int.reduceSub, Int.reduceMul, Int.reduceNeg, Int.reduceLT, Int.reduceLE, Int.reduceEq, if_true, if_false, not_true_eq_false, not_false_eq_true, zw_0, zp_0_2, zw_1, zw_2, zp_2_5, zw_3, zp_3, zw_4, zp_4, zw_5, zp_5, zw_6, zp_6, zw_7, zp_7, zw_8, zw_9, zp_9_5, zw_10, zp_10, zw_11, zp_11, zw_12, zp_12, zw_13, zp_13, zw_14, zp_14, zw_15, zp_15_5, zw_16, zp_16, zw_17, zp_17, zw_18, zp_18, zw_19, zp_19, zw_20, zp_20, zw_65, zw_66, zp_66_5, zw_67, zp_67, zw_68, zp_68, zw_69, zp_69, zw_70, zp_70, zw_71, zp_71, zw_72, zw_73, zp_73_5, zw_74, zp_74, zw_75, zp_75, zw_76, zp_76, zw_77, zp_77, zw_78, zp_78, zw_79, zp_79_5, zw_80, zp_80, zw_81, zp_81, zw_82, zp_82, zw_83, zp_83, zw_84, zp_84, zw_129, zp_129_1, zw_130, zp_130, zw_131, zp_131_1, zw_132, zp_132, zw_133, zp_133_5, zp_133_6, zp_133_7, zw_134, zp_134, zw_135, zp_135, zw_136, zp_136, zw_137, zw_138, zp_138_1, zw_139, zp_139, zw_140, zp_140_1, zw_141, zp_141, zw_142, zp_142, zw_143, zw_144, zp_144_1, zw_145, zp_145, zw_146, zp_146_4, zw_147, zp_147, zw_148, zp_148, zw_149, zp_149, zw_150, zp_150, zw_151, zw_152, zp_152, zw_153, zp_153_1, zp_153_2, zp_153_3, zw_154, zp_154, zw_155, zp_155_1, zp_155_2, zp_155_3, zw_156, zp_156, zw_157, zp_157_1, zp_157_2, zp_157_3, zw_158, zp_158, zw_159, zp_159_1, zp_159_2, zp_159_3, zw_160, zp_160, zw_161, zp_161_1, zp_161_2, zp_161_3, zw_162, zp_162, zw_163, zp_163_1, zp_163_2, zp_163_3, zw_164, zp_164, yg0_0, yg0_1, yg0_2, yg0_3, yg0_4, yg1_0, yg1_1, yg1_2, yg1_3, yg2_0, yg2_1, yg2_2, yg3_0, yg3_1, yg4_0, yg5_0, yg5_1, yg5_2, yg5_3, yg5_4, yg5_5, yg6_0, yg6_1, yg6_2, yg6_3, yg6_4, yg6_5, yg7_0, yg7_1, yg7_2, yg7_3, yg7_4, yg7_5, yg7_6, yg7_7, yg8_0, yg8_1, yg8_2, yg8_3, yg9_0, yg9_1, yg9_2, yg9_3, yg9_4, yg9_5, yg10_0, yg10_1, yg11_0, yg11_1, yg11_2, yg11_3, yg11_4, yg11_5, yg11_6, yg11_7, yg11_8, yg11_9, yg11_10, yp0_0, yp0_1, yp0_2, yp0_3, yp0_4, yp1_0, yp1_1, yp1_2, yp1_3, yp2_0, yp2_1, yp2_2, yp3_0, yp3_1, yp4_0, yp5_0, yp5_1, yp5_2, yp5_3, yp5_4, yp5_5, yp6_0, yp6_1, yp6_2, yp6_3, yp6_4, yp6_5, yp7_0, yp7_1, yp7_2, yp7_3, yp7_4, yp7_5, yp7_6, yp7_7, yp8_0, yp8_1, yp8_2, yp8_3, yp9_0, yp9_1, yp9_2, yp9_3, yp9_4, yp9_5, yp10_0, yp10_1, yp11_0, yp11_1, yp11_2, yp11_3, yp11_4, yp11_5, yp11_6, yp11_7, yp11_8, yp11_9, yp11_10, zlaw_s hsb, yil_s]
        rw [← zruns_N]
        rw [zruns_N 1, sL_law_33, ← hqe]
        rfl
      · rw [zruns_N 400]
        simp (disch := first | assumption | omega | decide | ((simp (disch := omega) only [zup_ne, zup_eq]); first | assumption | omega)) only [sL_law_2105, sL_law_2108, zkp_i, zkp_a, zkp_f, zkp_l, zkp_d, zkp_n, ycl_eq, zI_add, zI_sub, zI_mul, zI_neg, zI_inj, zI_lt, zI_le, zI_eq0, zI_lt0, zI_gt0, zI_le0, zI_ge0, yil_ok, yll_ok, yfl_ok, yis_ok, yls_ok, yfs_ok, y0_s, y1_s, ybo_ok, zset_w, zruns_if, zui_eq, zus_eq, zup_eq, Int.reduceAdd, Int.reduceSub, Int.reduceMul, Int.reduceNeg, Int.reduceLT, Int.reduceLE, Int.reduceEq, if_true, if_false, not_true_eq_false, not_false_eq_true, zw_0, zp_0_2, zw_1, zw_2, zp_2_5, zw_3, zp_3, zw_4, zp_4, zw_5, zp_5, zw_6, zp_6, zw_7, zp_7, zw_8, zw_9, zp_9_5, zw_10, zp_10, zw_11, zp_11, zw_12, zp_12, zw_13, zp_13, zw_14, zp_14, zw_15, zp_15_5, zw_16, zp_16, zw_17, zp_17, zw_18, zp_18, zw_19, zp_19, zw_20, zp_20, zw_65, zw_66, zp_66_5, zw_67, zp_67, zw_68, zp_68, zw_69, zp_69, zw_70, zp_70, zw_71, zp_71, zw_72, zw_73, zp_73_5, zw_74, zp_74, zw_75, zp_75, zw_76, zp_76, zw_77, zp_77, zw_78, zp_78, zw_79, zp_79_5, zw_80, zp_80, zw_81, zp_81, zw_82, zp_82, zw_83, zp_83, zw_84, zp_84, zw_129, zp_129_1, zw_130, zp_130, zw_131, zp_131_1, zw_132, zp_132, zw_133, zp_133_5, zp_133_6, zp_133_7, zw_134, zp_134, zw_135, zp_135, zw_136, zp_136, zw_137, zw_138, zp_138_1, zw_139, zp_139, zw_140, zp_140_1, zw_141, zp_141, zw_142, zp_142, zw_143, zw_144, zp_144_1, zw_145, zp_145, zw_146, zp_146_4, zw_147, zp_147, zw_148, zp_148, zw_149, zp_149, zw_150, zp_150, zw_151, zw_152, zp_152, zw_153, zp_153_1, zp_153_2, zp_153_3, zw_154, zp_154, zw_155, zp_155_1, zp_155_2, zp_155_3, zw_156, zp_156, zw_157, zp_157_1, zp_157_2, zp_157_3, zw_158, zp_158, zw_159, zp_159_1, zp_159_2, zp_159_3, zw_160, zp_160, zw_161, zp_161_1, zp_161_2, zp_161_3, zw_162, zp_162, zw_163, zp_163_1, zp_163_2, zp_163_3, zw_164, zp_164, yg0_0, yg0_1, yg0_2, yg0_3, yg0_4, yg1_0, yg1_1, yg1_2, yg1_3, yg2_0, yg2_1, yg2_2, yg3_0, yg3_1, yg4_0, yg5_0, yg5_1, yg5_2, yg5_3, yg5_4, yg5_5, yg6_0, yg6_1, yg6_2, yg6_3, yg6_4, yg6_5, yg7_0, yg7_1, yg7_2, yg7_3, yg7_4, yg7_5, yg7_6, yg7_7, yg8_0, yg8_1, yg8_2, yg8_3, yg9_0, yg9_1, yg9_2, yg9_3, yg9_4, yg9_5, yg10_0, yg10_1, yg11_0, yg11_1, yg11_2, yg11_3, yg11_4, yg11_5, yg11_6, yg11_7, yg11_8, yg11_9, yg11_10, yp0_0, yp0_1, yp0_2, yp0_3, yp0_4, yp1_0, yp1_1, yp1_2, yp1_3, yp2_0, yp2_1, yp2_2, yp3_0, yp3_1, yp4_0, yp5_0, yp5_1, yp5_2, yp5_3, yp5_4, yp5_5, yp6_0, yp6_1, yp6_2, yp6_3, yp6_4, yp6_5, yp7_0, yp7_1, yp7_2, yp7_3, yp7_4, yp7_5, yp7_6, yp7_7, yp8_0, yp8_1, yp8_2, yp8_3, yp9_0, yp9_1, yp9_2, yp9_3, yp9_4, yp9_5, yp10_0, yp10_1, yp11_0, yp11_1, yp11_2, yp11_3, yp11_4, yp11_5, yp11_6, yp11_7, yp11_8, yp11_9, yp11_10]
        rw [show 6 * ((i + 1 : Nat) : Int) = 6 * (i : Int) + 6 by omega]
    · refine ⟨zlaw b sb (.inl (9, L, .inl (zAI G))) (zw b σ α lo φ), ?_⟩
      rw [zruns_N 400]
      simp (disch := first | assumption | omega | decide | ((simp (disch := omega) only [zup_ne, zup_eq]); first | assumption | omega)) only [sL_law_18, sL_law_19, sL_law_20, sL_law_21, sL_law_23, sL_law_24, zkp_i, zkp_a, zkp_f, zkp_l, zkp_d, zkp_n, ycl_eq, zI_add, zI_sub, zI_mul, zI_neg, zI_inj, zI_lt, zI_le, zI_eq0, zI_lt0, zI_gt0, zI_le0, zI_ge0, yil_ok, yll_ok, yfl_ok, yis_ok, yls_ok, yfs_ok, y0_s, y1_s, ybo_ok, zset_w, zruns_if, zui_eq, zus_eq, zup_eq, Int.reduceAdd, Int.reduceSub, Int.reduceMul, Int.reduceNeg, Int.reduceLT, Int.reduceLE, Int.reduceEq, if_true, if_false, not_true_eq_false, not_false_eq_true, zw_0, zp_0_2, zw_1, zw_2, zp_2_5, zw_3, zp_3, zw_4, zp_4, zw_5, zp_5, zw_6, zp_6, zw_7, zp_7, zw_8, zw_9, zp_9_5, zw_10, zp_10, zw_11, zp_11, zw_12, zp_12, zw_13, zp_13, zw_14, zp_14, zw_15, zp_15_5, zw_16, zp_16, zw_17, zp_17, zw_18, zp_18, zw_19, zp_19, zw_20, zp_20, zw_65, zw_66, zp_66_5, zw_67, zp_67, zw_68, zp_68, zw_69, zp_69, zw_70, zp_70, zw_71, zp_71, zw_72, zw_73, zp_73_5, zw_74, zp_74, zw_75, zp_75, zw_76, zp_76, zw_77, zp_77, zw_78, zp_78, zw_79, zp_79_5, zw_80, zp_80, zw_81, zp_81, zw_82, zp_82, zw_83, zp_83, zw_84, zp_84, zw_129, zp_129_1, zw_130, zp_130, zw_131, zp_131_1, zw_132, zp_132, zw_133, zp_133_5, zp_133_6, zp_133_7, zw_134, zp_134, zw_135, zp_135, zw_136, zp_136, zw_137, zw_138, zp_138_1, zw_139, zp_139, zw_140, zp_140_1, zw_141, zp_141, zw_142, zp_142, zw_143, zw_144, zp_144_1, zw_145, zp_145, zw_146, zp_146_4, zw_147, zp_147, zw_148, zp_148, zw_149, zp_149, zw_150, zp_150, zw_151, zw_152, zp_152, zw_153, zp_153_1, zp_153_2, zp_153_3, zw_154, zp_154, zw_155, zp_155_1, zp_155_2, zp_155_3, zw_156, zp_156, zw_157, zp_157_1, zp_157_2, zp_157_3, zw_158, zp_158, zw_159, zp_159_1, zp_159_2, zp_159_3, zw_160, zp_160, zw_161, zp_161_1, zp_161_2, zp_161_3, zw_162, zp_162, zw_163, zp_163_1, zp_163_2, zp_163_3, zw_164, zp_164, yg0_0, yg0_1, yg0_2, yg0_3, yg0_4, yg1_0, yg1_1, yg1_2, yg1_3, yg2_0, yg2_1, yg2_2, yg3_0, yg3_1, yg4_0, yg5_0, yg5_1, yg5_2, yg5_3, yg5_4, yg5_5, yg6_0, yg6_1, yg6_2, yg6_3, yg6_4, yg6_5, yg7_0, yg7_1, yg7_2, yg7_3, yg7_4, yg7_5, yg7_6, yg7_7, yg8_0, yg8_1, yg8_2, yg8_3, yg9_0, yg9_1, yg9_2, yg9_3, yg9_4, yg9_5, yg10_0, yg10_1, yg11_0, yg11_1, yg11_2, yg11_3, yg11_4, yg11_5, yg11_6, yg11_7, yg11_8, yg11_9, yg11_10, yp0_0, yp0_1, yp0_2, yp0_3, yp0_4, yp1_0, yp1_1, yp1_2, yp1_3, yp2_0, yp2_1, yp2_2, yp3_0, yp3_1, yp4_0, yp5_0, yp5_1, yp5_2, yp5_3, yp5_4, yp5_5, yp6_0, yp6_1, yp6_2, yp6_3, yp6_4, yp6_5, yp7_0, yp7_1, yp7_2, yp7_3, yp7_4, yp7_5, yp7_6, yp7_7, yp8_0, yp8_1, yp8_2, yp8_3, yp9_0, yp9_1, yp9_2, yp9_3, yp9_4, yp9_5, yp10_0, yp10_1, yp11_0, yp11_1, yp11_2, yp11_3, yp11_4, yp11_5, yp11_6, yp11_7, yp11_8, yp11_9, yp11_10, zlaw_s hsb, yle_s]
      rw [if_pos (by omega)]
      rw [zruns_N 400]
      simp (disch := first | assumption | omega | decide | ((simp (disch := omega) only [zup_ne, zup_eq]); first | assumption | omega)) only [sL_law_2111, sL_law_2112, zkp_i, zkp_a, zkp_f, zkp_l, zkp_d, zkp_n, ycl_eq, zI_add, zI_sub, zI_mul, zI_neg, zI_inj, zI_lt, zI_le, zI_eq0, zI_lt0, zI_gt0, zI_le0, zI_ge0, yil_ok, yll_ok, yfl_ok, yis_ok, yls_ok, yfs_ok, y0_s, y1_s, ybo_ok, zset_w, zruns_if, zui_eq, zus_eq, zup_eq, Int.reduceAdd, Int.reduceSub, Int.reduceMul, Int.reduceNeg, Int.reduceLT, Int.reduceLE, Int.reduceEq, if_true, if_false, not_true_eq_false, not_false_eq_true, zw_0, zp_0_2, zw_1, zw_2, zp_2_5, zw_3, zp_3, zw_4, zp_4, zw_5, zp_5, zw_6, zp_6, zw_7, zp_7, zw_8, zw_9, zp_9_5, zw_10, zp_10, zw_11, zp_11, zw_12, zp_12, zw_13, zp_13, zw_14, zp_14, zw_15, zp_15_5, zw_16, zp_16, zw_17, zp_17, zw_18, zp_18, zw_19, zp_19, zw_20, zp_20, zw_65, zw_66, zp_66_5, zw_67, zp_67, zw_68, zp_68, zw_69, zp_69, zw_70, zp_70, zw_71, zp_71, zw_72, zw_73, zp_73_5, zw_74, zp_74, zw_75, zp_75, zw_76, zp_76, zw_77, zp_77, zw_78, zp_78, zw_79, zp_79_5, zw_80, zp_80, zw_81, zp_81, zw_82, zp_82, zw_83, zp_83, zw_84, zp_84, zw_129, zp_129_1, zw_130, zp_130, zw_131, zp_131_1, zw_132, zp_132, zw_133, zp_133_5, zp_133_6, zp_133_7, zw_134, zp_134, zw_135, zp_135, zw_136, zp_136, zw_137, zw_138, zp_138_1, zw_139, zp_139, zw_140, zp_140_1, zw_141, zp_141, zw_142, zp_142, zw_143, zw_144, zp_144_1, zw_145, zp_145, zw_146, zp_146_4, zw_147, zp_147, zw_148, zp_148, zw_149, zp_149, zw_150, zp_150, zw_151, zw_152, zp_152, zw_153, zp_153_1, zp_153_2, zp_153_3, zw_154, zp_154, zw_155, zp_155_1, zp_155_2, zp_155_3, zw_156, zp_156, zw_157, zp_157_1, zp_157_2, zp_157_3, zw_158, zp_158, zw_159, zp_159_1, zp_159_2, zp_159_3, zw_160, zp_160, zw_161, zp_161_1, zp_161_2, zp_161_3, zw_162, zp_162, zw_163, zp_163_1, zp_163_2, zp_163_3, zw_164, zp_164, yg0_0, yg0_1, yg0_2, yg0_3, yg0_4, yg1_0, yg1_1, yg1_2, yg1_3, yg2_0, yg2_1, yg2_2, yg3_0, yg3_1, yg4_0, yg5_0, yg5_1, yg5_2, yg5_3, yg5_4, yg5_5, yg6_0, yg6_1, yg6_2, yg6_3, yg6_4, yg6_5, yg7_0, yg7_1, yg7_2, yg7_3, yg7_4, yg7_5, yg7_6, yg7_7, yg8_0, yg8_1, yg8_2, yg8_3, yg9_0, yg9_1, yg9_2, yg9_3, yg9_4, yg9_5, yg10_0, yg10_1, yg11_0, yg11_1, yg11_2, yg11_3, yg11_4, yg11_5, yg11_6, yg11_7, yg11_8, yg11_9, yg11_10, yp0_0, yp0_1, yp0_2, yp0_3, yp0_4, yp1_0, yp1_1, yp1_2, yp1_3, yp2_0, yp2_1, yp2_2, yp3_0, yp3_1, yp4_0, yp5_0, yp5_1, yp5_2, yp5_3, yp5_4, yp5_5, yp6_0, yp6_1, yp6_2, yp6_3, yp6_4, yp6_5, yp7_0, yp7_1, yp7_2, yp7_3, yp7_4, yp7_5, yp7_6, yp7_7, yp8_0, yp8_1, yp8_2, yp8_3, yp9_0, yp9_1, yp9_2, yp9_3, yp9_4, yp9_5, yp10_0, yp10_1, yp11_0, yp11_1, yp11_2, yp11_3, yp11_4, yp11_5, yp11_6, yp11_7, yp11_8, yp11_9, yp11_10]
theorem zx_all {f : Nat → Option zC} {c1 c2 : Option zC} (hf : ∀ a, f a = none) : zx b 165 15 (zup (zx b 0 165 (zup f b c1)) (b + 165) c2) = zw b σ0 α0 lo0 φ0 := by
  funext a
  unfold zw
  by_cases q : b ≤ a ∧ a < b + 180
  · rw [if_pos q]
    by_cases q2 : b + 165 ≤ a
    · unfold zx
      rw [if_pos (by omega)]
    · rw [zx_out (by omega), zup_ne (by omega)]
      unfold zx
      rw [if_pos (by omega)]
  · rw [if_neg q, zx_out (by omega), zup_ne (by omega), zx_out (by omega), zup_ne (by omega)]
    exact hf a
theorem zQ0 : zQR σ0 α0 lo0 := by
  have z1 : ∀ k, k ≠ 10 ∧ k ≠ 74 ∧ k ≠ 166 ∧ k ≠ 176 → ∀ j, α0 k j = 0 := fun k h j => by rw [α0_z h]
  have z2 : ∀ j, α0 166 j = if 1330 ≤ j ∧ j < 1338 then 1000 else 0 := fun j => rfl
  have hA : ∀ j : Int, j < 1330 ∨ 1338 ≤ j → α0 166 j = 0 := fun j h => by rw [z2, if_neg (by omega)]
  have hs : zsm (fun _ => 0) 40 = 0 := by decide
  refine ⟨⟨⟨hA 0 (by omega), hA 1 (by omega), hA 2 (by omega), ⟨by decide, by decide⟩, ⟨by decide, by decide⟩, by decide, by decide⟩, fun n h0 h1 => ?_, ⟨fun n h0 h1 => ?_, fun n h0 h1 => ?_, fun n h0 h1 => ?_⟩, fun k hk => ⟨fun n h0 h1 => ?_, fun n h0 h1 => ?_, fun n h0 h1 => ?_, ?_⟩, fun f h0 h1 => ?_, fun i h0 h1 => ?_, fun i h0 h1 => ?_, fun n m h0 h1 h2 => ?_⟩, fun h => ?_, ⟨rfl, Or.inl rfl⟩, ⟨rfl, by decide, by decide, fun i h0 h1 => ?_⟩, ⟨rfl, by decide, by decide, fun i h0 h1 => ?_⟩, fun r hr => ⟨?_, fun h => ?_⟩, fun k j => ?_, fun n => ⟨Int.le_refl 0, by show (0 : Int) < 34359738368; decide⟩, fun n => ⟨Int.le_refl 0, by show (0 : Int) < 34359738368; decide⟩⟩
  · exact absurd h1 (by show ¬ n < 0; omega)
  · exact absurd h1 (by show ¬ n < 0; omega)
  · rw [z1 _ (by decide)]
    decide
  · exact z1 _ (by decide) n
  · exact absurd h1 (by show ¬ n < 0; omega)
  · rw [z1 _ (by omega)]
    decide
  · exact z1 _ (by omega) n
  · rw [zsm_c (G := α0 (1 + 21 + 2 * k)) (G' := fun _ => 0) 40 (fun j _ => z1 _ (by omega) j), hs]
    rfl
  · rw [z2, if_pos (by omega)]
    refine ⟨?_, ?_, ?_⟩
    · show zcp (fun _ => 1000) (fun _ => (0 : Int)) 0 0 8 f = 1000
      rw [zcp_at (by omega)]
    · show 0 ≤ zcp (fun _ => 1000) (fun _ => (0 : Int)) 0 0 8 f
      rw [zcp_at (by omega)]
      decide
    · show zcp (fun _ => 1000) (fun _ => (0 : Int)) 0 0 8 f ≤ 1000
      rw [zcp_at (by omega)]
      decide
  · exact absurd h1 (by show ¬ i < 0; omega)
  · exact absurd h1 (by show ¬ i < 0; omega)
  · exact absurd h2 (by show ¬ m < 0; omega)
  · exact absurd h (by decide)
  · exact absurd h1 (by show ¬ i < 0; omega)
  · exact absurd h1 (by show ¬ i < 0; omega)
  · have : α0 176 r = -5 := by
      show zcp (fun _ => -5) (fun _ => (0 : Int)) 0 0 6 r = -5
      rw [zcp_at (by omega)]
    rw [this]
    rfl
  · have : α0 176 r = -5 := by
      show zcp (fun _ => -5) (fun _ => (0 : Int)) 0 0 6 r = -5
      rw [zcp_at (by omega)]
    rw [this] at h
    exact absurd h (by decide)
  · have hc : ∀ (v s t n : Int), zr v → zr (zcp (fun _ => v) (fun _ => 0) s t n j) := fun v s t n hv => zr_cpF (F := fun _ => v) (G := fun _ => 0) (fun _ => hv) (fun _ => ⟨by decide, by decide⟩) j
    unfold α0
    split
    · exact hc _ _ _ _ ⟨by decide, by decide⟩
    · split
      · exact hc _ _ _ _ ⟨by decide, by decide⟩
      · split
        · exact hc _ _ _ _ ⟨by decide, by decide⟩
        · exact ⟨by show (-2147483648 : Int) ≤ 0; decide, by show (0 : Int) < 2147483648; decide⟩
theorem law_run (hL2 : L ≤ 3072) (hsb : sb < b) (hG : ∀ j, zr (G j)) : ∃ g, zruns (zlw 20 b) 13 2 cL_law (0, [some (.ref sb), none, none, none], [], ((b, 0), zlaw b sb (.inl (9, L, .inl (zAI G))) (fun _ => none))) = some (some (.int (zI 1)), ((b + 180, 9039), g)) := by
  obtain ⟨g, hg⟩ := law_loop (z := (b + 180, 9039)) hL2 hsb hG L 0 (by omega) (by omega) σ0 α0 lo0 φ0 zQ0
  refine ⟨g, Eq.trans ?_ hg⟩
  have c11 : zlw 20 b kX11_init [.ref b] ((b + 1, 11), zlaw b sb (.inl (9, L, .inl (zAI G))) (zup (fun _ => none) b (some (.inr (11, [.null, .null, .int 0, .null, .null, .null, .null, .null, .null, .null, .null]))))) = some (none, ((b + 165, 4588), zlaw b sb (.inl (9, L, .inl (zAI G))) (zx b 0 165 (zup (fun _ => none) b (some (.inr (11, [.null, .null, .int 0, .null, .null, .null, .null, .null, .null, .null, .null]))))))) := zlw_call (fun a ha => zup_ne (by omega)) (iX11 (d := 16) (b := b) (h := 0) (sl := 11) rfl zup_eq)
  have c12 : zlw 20 b kX12_init [.ref (b + 165)] ((b + 166, 4609), zlaw b sb (.inl (9, L, .inl (zAI G))) (zup (zx b 0 165 (zup (fun _ => none) b (some (.inr (11, [.null, .null, .int 0, .null, .null, .null, .null, .null, .null, .null, .null]))))) (b + 165) (some (.inr (12, [.null, .null, .int 0, .null, .null, .null, .null, .null, .null, .int 0, .int 0, .int 0, .int 0, .int 0, .int 0, .null, .null, .null, .null, .null, .null]))))) = some (none, ((b + 180, 9039), zlaw b sb (.inl (9, L, .inl (zAI G))) (zx b 165 15 (zup (zx b 0 165 (zup (fun _ => none) b (some (.inr (11, [.null, .null, .int 0, .null, .null, .null, .null, .null, .null, .null, .null]))))) (b + 165) (some (.inr (12, [.null, .null, .int 0, .null, .null, .null, .null, .null, .null, .int 0, .int 0, .int 0, .int 0, .int 0, .int 0, .null, .null, .null, .null, .null, .null]))))))) := zlw_call (fun a ha => by rw [zup_ne (by omega), zx_out (by omega), zup_ne (by omega)]) (iX12 (d := 19) (b := b) (h := 165) (sl := 4609) rfl zup_eq)
  rw [zx_all (fun _ => rfl)] at c12
  have u1 : ∀ g c, zup (zlaw b sb (.inl (9, L, .inl (zAI G))) g) b c = zlaw b sb (.inl (9, L, .inl (zAI G))) (zup g b c) := fun g c => zlaw_up (Nat.le_refl b)
  have u2 : ∀ g c, zup (zlaw b sb (.inl (9, L, .inl (zAI G))) g) (b + 165) c = zlaw b sb (.inl (9, L, .inl (zAI G))) (zup g (b + 165) c) := fun g c => zlaw_up (Nat.le_add_right b 165)
  rw [zruns_N 400]
  simp (disch := first | assumption | omega | decide | ((simp (disch := omega) only [zup_ne, zup_eq]); first | assumption | omega)) only [sL_law_0, sL_law_3, sL_law_4, sL_law_7, sL_law_8, sL_law_11, sL_law_12, sL_law_15, sL_law_16, sL_law_17, zkp_i, zkp_a, zkp_f, zkp_l, zkp_d, zkp_n, ycl_eq, zI_add, zI_sub, zI_mul, zI_neg, zI_inj, zI_lt, zI_le, zI_eq0, zI_lt0, zI_gt0, zI_le0, zI_ge0, yil_ok, yll_ok, yfl_ok, yis_ok, yls_ok, yfs_ok, y0_s, y1_s, ybo_ok, zset_w, zruns_if, zui_eq, zus_eq, zup_eq, Int.reduceAdd, Int.reduceSub, Int.reduceMul, Int.reduceNeg, Int.reduceLT, Int.reduceLE, Int.reduceEq, if_true, if_false, not_true_eq_false, not_false_eq_true, zw_0, zp_0_2, zw_1, zw_2, zp_2_5, zw_3, zp_3, zw_4, zp_4, zw_5, zp_5, zw_6, zp_6, zw_7, zp_7, zw_8, zw_9, zp_9_5, zw_10, zp_10, zw_11, zp_11, zw_12, zp_12, zw_13, zp_13, zw_14, zp_14, zw_15, zp_15_5, zw_16, zp_16, zw_17, zp_17, zw_18, zp_18, zw_19, zp_19, zw_20, zp_20, zw_65, zw_66, zp_66_5, zw_67, zp_67, zw_68, zp_68, zw_69, zp_69, zw_70, zp_70, zw_71, zp_71, zw_72, zw_73, zp_73_5, zw_74, zp_74, zw_75, zp_75, zw_76, zp_76, zw_77, zp_77, zw_78, zp_78, zw_79, zp_79_5, zw_80, zp_80, zw_81, zp_81, zw_82, zp_82, zw_83, zp_83, zw_84, zp_84, zw_129, zp_129_1, zw_130, zp_130, zw_131, zp_131_1, zw_132, zp_132, zw_133, zp_133_5, zp_133_6, zp_133_7, zw_134, zp_134, zw_135, zp_135, zw_136, zp_136, zw_137, zw_138, zp_138_1, zw_139, zp_139, zw_140, zp_140_1, zw_141, zp_141, zw_142, zp_142, zw_143, zw_144, zp_144_1, zw_145, zp_145, zw_146, zp_146_4, zw_147, zp_147, zw_148, zp_148, zw_149, zp_149, zw_150, zp_150, zw_151, zw_152, zp_152, zw_153, zp_153_1, zp_153_2, zp_153_3, zw_154, zp_154, zw_155, zp_155_1, zp_155_2, zp_155_3, zw_156, zp_156, zw_157, zp_157_1, zp_157_2, zp_157_3, zw_158, zp_158, zw_159, zp_159_1, zp_159_2, zp_159_3, zw_160, zp_160, zw_161, zp_161_1, zp_161_2, zp_161_3, zw_162, zp_162, zw_163, zp_163_1, zp_163_2, zp_163_3, zw_164, zp_164, yg0_0, yg0_1, yg0_2, yg0_3, yg0_4, yg1_0, yg1_1, yg1_2, yg1_3, yg2_0, yg2_1, yg2_2, yg3_0, yg3_1, yg4_0, yg5_0, yg5_1, yg5_2, yg5_3, yg5_4, yg5_5, yg6_0, yg6_1, yg6_2, yg6_3, yg6_4, yg6_5, yg7_0, yg7_1, yg7_2, yg7_3, yg7_4, yg7_5, yg7_6, yg7_7, yg8_0, yg8_1, yg8_2, yg8_3, yg9_0, yg9_1, yg9_2, yg9_3, yg9_4, yg9_5, yg10_0, yg10_1, yg11_0, yg11_1, yg11_2, yg11_3, yg11_4, yg11_5, yg11_6, yg11_7, yg11_8, yg11_9, yg11_10, yp0_0, yp0_1, yp0_2, yp0_3, yp0_4, yp1_0, yp1_1, yp1_2, yp1_3, yp2_0, yp2_1, yp2_2, yp3_0, yp3_1, yp4_0, yp5_0, yp5_1, yp5_2, yp5_3, yp5_4, yp5_5, yp6_0, yp6_1, yp6_2, yp6_3, yp6_4, yp6_5, yp7_0, yp7_1, yp7_2, yp7_3, yp7_4, yp7_5, yp7_6, yp7_7, yp8_0, yp8_1, yp8_2, yp8_3, yp9_0, yp9_1, yp9_2, yp9_3, yp9_4, yp9_5, yp10_0, yp10_1, yp11_0, yp11_1, yp11_2, yp11_3, yp11_4, yp11_5, yp11_6, yp11_7, yp11_8, yp11_9, yp11_10, znew_w, c11, c12, u1, u2, Nat.add_assoc, Nat.reduceAdd, Nat.zero_add]
  rw [← zruns_N]
  rw [show (6 * ((0 : Nat) : Int)) = 0 from rfl]
end LAWL
