/-! ===== the air of a blend, by the class ===== -/
theorem zcp_gF {F G : Int → UInt32} {s t : Int} {v : UInt32} {i : Nat} (h : v = F (s + i)) : zui (zcp F G s t i) (t + i) v = zcp F G s t ((i + 1 : Nat) : Int) := by
  funext j
  unfold zui zcp
  by_cases e : j = t + i
  · rw [if_pos e, if_pos (by omega), h, e]
    congr 1
    omega
  · rw [if_neg e]
    by_cases q : t ≤ j ∧ j < t + i
    · rw [if_pos q, if_pos (by omega)]
    · rw [if_neg q, if_neg (by omega)]
theorem zcp_0F {F G : Int → UInt32} {s t : Int} : zcp F G s t ((0 : Nat) : Int) = G := by
  funext j
  unfold zcp
  rw [if_neg (by omega)]
section AIR
variable {d b : Nat} {z : Nat × Nat} {σ : Nat → Nat → Int} {α lo : Nat → Int → Int} {φ : Nat → Int → UInt32}
theorem tJ7_fillF {k n : Nat} {v : UInt32} (hk : k < 180) (hl : zlay k = (2, n)) (hn : n ≤ 10000) : zcall (d + 1) kJ7_fill_e525d [.ref (b + k), .float v] (z, zw b σ α lo φ) = some (none, (z, zw b σ α lo (zup φ k (zcp (fun _ => v) (φ k) 0 0 n)))) := by
  rw [qJ7_fill_e525d rfl]
  rw [zruns_N 400]
  simp (disch := first | assumption | omega | decide | ((simp (disch := omega) only [zup_ne, zup_eq]); first | assumption | omega)) only [sJ7_fill_e525d_0, sJ7_fill_e525d_1, sJ7_fill_e525d_2, sJ7_fill_e525d_3, sJ7_fill_e525d_4, zkp_i, zkp_a, zkp_f, zkp_l, zkp_d, zkp_n, ycl_eq, zI_add, zI_sub, zI_mul, zI_neg, zI_inj, zI_lt, zI_le, zI_eq0, zI_lt0, zI_gt0, zI_le0, zI_ge0, yil_ok, yll_ok, yfl_ok, yis_ok, yls_ok, yfs_ok, y0_s, y1_s, ybo_ok, zset_w, zruns_if, zui_eq, zus_eq, zup_eq, Int.reduceAdd, Int.reduceSub, Int.reduceMul, Int.reduceNeg, Int.reduceLT, Int.reduceLE, Int.reduceEq, if_true, if_false, not_true_eq_false, not_false_eq_true, zw_flt hk hl, yle_f]
  rw [← zruns_N]
  conv => lhs; rw [zup_id' (α := φ) (k := k) (X := zcp (fun _ => v) (φ k) 0 0 ((0 : Nat) : Int)) zcp_0F]
  refine zloop (run := zruns (zcall d) 23 0 cJ7_fill_e525d) (fun i => (5, [some (.ref (b + k)), some (.float v), some (.int (zI i)), some (.int (zI n))], [], (z, zw b σ α lo (zup φ k (zcp (fun _ => v) (φ k) 0 0 i))))) n (fun i hi => ?_) ?_
  · have e : zui (zcp (fun _ => v) (φ k) 0 0 i) i v = zcp (fun _ => v) (φ k) 0 0 ((i + 1 : Nat) : Int) := by
      have := zcp_gF (F := fun _ => v) (G := φ k) (s := 0) (t := 0) (v := v) (i := i) rfl
      rw [Int.zero_add] at this
      exact this
    repeat' (first | rfl | (exfalso; first | omega | contradiction) | split | (rw [zruns_N 400]; simp (disch := first | assumption | omega | decide | ((simp (disch := omega) only [zup_ne, zup_eq]); first | assumption | omega)) only [sJ7_fill_e525d_5, sJ7_fill_e525d_6, sJ7_fill_e525d_7, sJ7_fill_e525d_10, sJ7_fill_e525d_11, sJ7_fill_e525d_12, sJ7_fill_e525d_13, sJ7_fill_e525d_14, sJ7_fill_e525d_17, zkp_i, zkp_a, zkp_f, zkp_l, zkp_d, zkp_n, ycl_eq, zI_add, zI_sub, zI_mul, zI_neg, zI_inj, zI_lt, zI_le, zI_eq0, zI_lt0, zI_gt0, zI_le0, zI_ge0, yil_ok, yll_ok, yfl_ok, yis_ok, yls_ok, yfs_ok, y0_s, y1_s, ybo_ok, zset_w, zruns_if, zui_eq, zus_eq, zup_eq, Int.reduceAdd, Int.reduceSub, Int.reduceMul, Int.reduceNeg, Int.reduceLT, Int.reduceLE, Int.reduceEq, if_true, if_false, not_true_eq_false, not_false_eq_true, zw_flt hk hl, zp_flt hk hl, zup_up, e]))
  · repeat' (first | rfl | (exfalso; first | omega | contradiction) | split | (rw [zruns_N 400]; simp (disch := first | assumption | omega | decide | ((simp (disch := omega) only [zup_ne, zup_eq]); first | assumption | omega)) only [sJ7_fill_e525d_5, sJ7_fill_e525d_6, sJ7_fill_e525d_7, sJ7_fill_e525d_10, sJ7_fill_e525d_11, sJ7_fill_e525d_12, sJ7_fill_e525d_13, sJ7_fill_e525d_14, sJ7_fill_e525d_17, sJ7_fill_e525d_20, zkp_i, zkp_a, zkp_f, zkp_l, zkp_d, zkp_n, ycl_eq, zI_add, zI_sub, zI_mul, zI_neg, zI_inj, zI_lt, zI_le, zI_eq0, zI_lt0, zI_gt0, zI_le0, zI_ge0, yil_ok, yll_ok, yfl_ok, yis_ok, yls_ok, yfs_ok, y0_s, y1_s, ybo_ok, zset_w, zruns_if, zui_eq, zus_eq, zup_eq, Int.reduceAdd, Int.reduceSub, Int.reduceMul, Int.reduceNeg, Int.reduceLT, Int.reduceLE, Int.reduceEq, if_true, if_false, not_true_eq_false, not_false_eq_true]))
/-- numbers of c notes in range: drops, hundredths, lastings, families -/
def zAR (D H L F : Int → Int) (c : Nat) : Prop := c ≤ 40 ∧ ∀ i : Int, 0 ≤ i → i < c → (0 ≤ D i ∧ D i ≤ 9999) ∧ (1 ≤ H i ∧ H i ≤ 9999) ∧ (1 ≤ L i ∧ L i ≤ 999) ∧ 0 ≤ F i ∧ F i ≤ 7
/-- the weight of a note after j hours -/
def zwt (D H L : Int → Int) : Nat → Int → UInt32
  | 0, i => FP.fmul (FP.i2f (zI (D i))) (zstr (H i))
  | j + 1, i => FP.fmul (zwt D H L j i) (zkee (L i))
theorem zdrF {x : Int} (h : 0 ≤ x ∧ x ≤ 9999) : zPF (FP.i2f (zI x)) ∧ zVal (FP.i2f (zI x)) ≤ 2 ^ (14 + 149) := by
  obtain ⟨a1, a2⟩ := zi2f (x := x) ⟨by omega, by omega⟩
  refine ⟨a1, ?_⟩
  have h2 : x * 2 ^ 149 ≤ 16384 * 2 ^ 149 := Int.mul_le_mul_of_nonneg_right (by omega) (by decide)
  have h3 : (16384 * 2 ^ 149 : Int) = ((2 ^ (14 + 149) : Nat) : Int) := by decide +kernel
  rw [h3, ← a2] at h2
  exact Int.ofNat_le.1 h2
theorem zwt_ok {D H L F : Int → Int} {c : Nat} (hA : zAR D H L F c) {i : Int} (h0 : 0 ≤ i) (h1 : i < c) : ∀ j, zPF (zwt D H L j i) ∧ zVal (zwt D H L j i) ≤ 2 ^ (21 + 149) := by
  obtain ⟨a1, a2, a3, a4⟩ := hA.2 i h0 h1
  intro j
  induction j with
  | zero =>
    have h := zmulB (k := 14) (j := 7) (zdrF a1) (zstr_ok a2) (by decide)
    rw [show 14 + 7 + 149 = 21 + 149 from rfl] at h
    exact h
  | succ j ih =>
    have h := zmulB (k := 21) (j := 0) ih (zkee_ok a3) (by decide)
    rw [show 21 + 0 + 149 = 21 + 149 from rfl] at h
    exact h
theorem zwt_0 {D H L F : Int → Int} {c : Nat} (hA : zAR D H L F c) {i : Int} (h0 : 0 ≤ i) (h1 : i < c) (hd : D i = 0) : ∀ j, zwt D H L j i = 0 := by
  obtain ⟨a1, a2, a3, a4⟩ := hA.2 i h0 h1
  intro j
  induction j with
  | zero =>
    show FP.fmul (FP.i2f (zI (D i))) (zstr (H i)) = 0
    rw [hd, show FP.i2f (zI 0) = 0 by decide +kernel]
    exact zmul_0 (zstr_ok a2).1
  | succ j ih =>
    show FP.fmul (zwt D H L j i) (zkee (L i)) = 0
    rw [ih]
    exact zmul_0 (zkee_ok a3).1
/-- the class's floats after j hours -/
def zph (φ : Nat → Int → UInt32) (D H L : Int → Int) (c j : Nat) : Nat → Int → UInt32 := zup (zup φ 147 (zcp (zwt D H L j) (φ 147) 0 0 c)) 148 (zcp (fun i => zkee (L i)) (φ 148) 0 0 c)
theorem zph_47 {D H L : Int → Int} {c j : Nat} : zph φ D H L c j 147 = zcp (zwt D H L j) (φ 147) 0 0 c := by
  unfold zph
  rw [zup_ne (by decide), zup_eq]
theorem zph_48 {D H L : Int → Int} {c j : Nat} : zph φ D H L c j 148 = zcp (fun i => zkee (L i)) (φ 148) 0 0 c := by
  unfold zph
  rw [zup_eq]
theorem zcp_c {α : Type} {F F' G : Int → α} {n : Int} (h : ∀ i, 0 ≤ i → i < n → F i = F' i) : zcp F G 0 0 n = zcp F' G 0 0 n := by
  funext j
  unfold zcp
  by_cases q : 0 ≤ j ∧ j < 0 + n
  · rw [if_pos q, if_pos q, h _ (by omega) (by omega)]
  · rw [if_neg q, if_neg q]
theorem zcp_zcp {α : Type} {F G E : Int → α} {n : Int} : zcp F (zcp E G 0 0 n) 0 0 n = zcp F G 0 0 n := by
  funext j
  unfold zcp
  by_cases q : 0 ≤ j ∧ j < 0 + n
  · rw [if_pos q, if_pos q]
  · rw [if_neg q, if_neg q, if_neg q]
theorem tX0_passHour {D H L F : Int → Int} {c j : Nat} (hA : zAR D H L F c) (hc : σ 146 4 = c) : zcall (d + 1) kX0_passHour [.ref (b + 146)] (z, zw b σ α lo (zph φ D H L c j)) = some (none, (z, zw b σ α lo (zph φ D H L c (j + 1)))) := by
  have hc40 := hA.1
  rw [qX0_passHour rfl]
  rw [zruns_N 400]
  simp (disch := first | assumption | omega | decide | ((simp (disch := omega) only [zup_ne, zup_eq]); first | assumption | omega)) only [sX0_passHour_0, sX0_passHour_1, zkp_i, zkp_a, zkp_f, zkp_l, zkp_d, zkp_n, ycl_eq, zI_add, zI_sub, zI_mul, zI_neg, zI_inj, zI_lt, zI_le, zI_eq0, zI_lt0, zI_gt0, zI_le0, zI_ge0, yil_ok, yll_ok, yfl_ok, yis_ok, yls_ok, yfs_ok, y0_s, y1_s, ybo_ok, zset_w, zruns_if, zui_eq, zus_eq, zup_eq, Int.reduceAdd, Int.reduceSub, Int.reduceMul, Int.reduceNeg, Int.reduceLT, Int.reduceLE, Int.reduceEq, if_true, if_false, not_true_eq_false, not_false_eq_true, zw_0, zp_0_2, zw_1, zw_2, zp_2_5, zw_3, zp_3, zw_4, zp_4, zw_5, zp_5, zw_6, zp_6, zw_7, zp_7, zw_8, zw_9, zp_9_5, zw_10, zp_10, zw_11, zp_11, zw_12, zp_12, zw_13, zp_13, zw_14, zp_14, zw_15, zp_15_5, zw_16, zp_16, zw_17, zp_17, zw_18, zp_18, zw_19, zp_19, zw_20, zp_20, zw_65, zw_66, zp_66_5, zw_67, zp_67, zw_68, zp_68, zw_69, zp_69, zw_70, zp_70, zw_71, zp_71, zw_72, zw_73, zp_73_5, zw_74, zp_74, zw_75, zp_75, zw_76, zp_76, zw_77, zp_77, zw_78, zp_78, zw_79, zp_79_5, zw_80, zp_80, zw_81, zp_81, zw_82, zp_82, zw_83, zp_83, zw_84, zp_84, zw_129, zp_129_1, zw_130, zp_130, zw_131, zp_131_1, zw_132, zp_132, zw_133, zp_133_5, zp_133_6, zp_133_7, zw_134, zp_134, zw_135, zp_135, zw_136, zp_136, zw_137, zw_138, zp_138_1, zw_139, zp_139, zw_140, zp_140_1, zw_141, zp_141, zw_142, zp_142, zw_143, zw_144, zp_144_1, zw_145, zp_145, zw_146, zp_146_4, zw_147, zp_147, zw_148, zp_148, zw_149, zp_149, zw_150, zp_150, zw_151, zw_152, zp_152, zw_153, zp_153_1, zp_153_2, zp_153_3, zw_154, zp_154, zw_155, zp_155_1, zp_155_2, zp_155_3, zw_156, zp_156, zw_157, zp_157_1, zp_157_2, zp_157_3, zw_158, zp_158, zw_159, zp_159_1, zp_159_2, zp_159_3, zw_160, zp_160, zw_161, zp_161_1, zp_161_2, zp_161_3, zw_162, zp_162, zw_163, zp_163_1, zp_163_2, zp_163_3, zw_164, zp_164, yg0_0, yg0_1, yg0_2, yg0_3, yg0_4, yg1_0, yg1_1, yg1_2, yg1_3, yg2_0, yg2_1, yg2_2, yg3_0, yg3_1, yg4_0, yg5_0, yg5_1, yg5_2, yg5_3, yg5_4, yg5_5, yg6_0, yg6_1, yg6_2, yg6_3, yg6_4, yg6_5, yg7_0, yg7_1, yg7_2, yg7_3, yg7_4, yg7_5, yg7_6, yg7_7, yg8_0, yg8_1, yg8_2, yg8_3, yg9_0, yg9_1, yg9_2, yg9_3, yg9_4, yg9_5, yg10_0, yg10_1, yg11_0, yg11_1, yg11_2, yg11_3, yg11_4, yg11_5, yg11_6, yg11_7, yg11_8, yg11_9, yg11_10, yp0_0, yp0_1, yp0_2, yp0_3, yp0_4, yp1_0, yp1_1, yp1_2, yp1_3, yp2_0, yp2_1, yp2_2, yp3_0, yp3_1, yp4_0, yp5_0, yp5_1, yp5_2, yp5_3, yp5_4, yp5_5, yp6_0, yp6_1, yp6_2, yp6_3, yp6_4, yp6_5, yp7_0, yp7_1, yp7_2, yp7_3, yp7_4, yp7_5, yp7_6, yp7_7, yp8_0, yp8_1, yp8_2, yp8_3, yp9_0, yp9_1, yp9_2, yp9_3, yp9_4, yp9_5, yp10_0, yp10_1, yp11_0, yp11_1, yp11_2, yp11_3, yp11_4, yp11_5, yp11_6, yp11_7, yp11_8, yp11_9, yp11_10]
  rw [← zruns_N]
  obtain ⟨P, hP⟩ : ∃ P, P = zph φ D H L c j := ⟨_, rfl⟩
  obtain ⟨V, hV⟩ : ∃ V : Int → UInt32, V = fun i => zwt D H L (j + 1) i := ⟨_, rfl⟩
  have h47 : ∀ i : Int, 0 ≤ i → i < c → P 147 i = zwt D H L j i := fun i h0 h1 => by rw [hP, zph_47, zcp_at (by omega), show 0 + (i - 0) = i by omega]
  have h48 : ∀ i : Int, 0 ≤ i → i < c → P 148 i = zkee (L i) := fun i h0 h1 => by rw [hP, zph_48, zcp_at (by omega), show 0 + (i - 0) = i by omega]
  have hend : zup P 147 (zcp V (P 147) 0 0 c) = zph φ D H L c (j + 1) := by
    rw [hP, zph_47, zcp_zcp, hV]
    unfold zph
    rw [zup_c1 (i := 148) (j := 147) (by decide), zup_up]
  rw [← hend, ← hP]
  conv => lhs; rw [zup_id' (α := P) (k := 147) (X := zcp V (P 147) 0 0 ((0 : Nat) : Int)) zcp_0F]
  refine zloop (run := zruns (zcall d) 0 0 cX0_passHour) (fun i => (2, [some (.ref (b + 146)), some (.int (zI i))], [], (z, zw b σ α lo (zup P 147 (zcp V (P 147) 0 0 i))))) c (fun i hi => ?_) ?_
  · have e1 : zcp V (P 147) 0 0 i i = zwt D H L j i := by
      rw [zcp_ne (by omega), h47 i (by omega) (by omega)]
    have e2 : ∀ X, zup P 147 X 148 i = zkee (L i) := fun X => by
      rw [zup_ne (by decide), h48 i (by omega) (by omega)]
    have e3 : zcp V (P 147) 0 0 ((i + 1 : Nat) : Int) = zui (zcp V (P 147) 0 0 i) i (FP.fmul (zwt D H L j i) (zkee (L i))) := by
      have := zcp_gF (F := V) (G := P 147) (s := 0) (t := 0) (v := V i) (i := i) (by rw [Int.zero_add])
      rw [Int.zero_add] at this
      rw [← this, hV]
      rfl
    have h3 := zPF_NN (zwt_ok hA (i := i) (by omega) (by omega) (j + 1)).1
    have h3 : zNN (FP.fmul (zwt D H L j i) (zkee (L i))) := h3
    rw [e3]
    generalize zcp V (P 147) 0 0 i = G at *
    rw [zruns_N 400]
    simp (disch := first | assumption | omega | decide | ((simp (disch := omega) only [zup_ne, zup_eq]); first | assumption | omega)) only [sX0_passHour_2, sX0_passHour_3, sX0_passHour_4, sX0_passHour_7, zkp_i, zkp_a, zkp_f, zkp_l, zkp_d, zkp_n, ycl_eq, zI_add, zI_sub, zI_mul, zI_neg, zI_inj, zI_lt, zI_le, zI_eq0, zI_lt0, zI_gt0, zI_le0, zI_ge0, yil_ok, yll_ok, yfl_ok, yis_ok, yls_ok, yfs_ok, y0_s, y1_s, ybo_ok, zset_w, zruns_if, zui_eq, zus_eq, zup_eq, Int.reduceAdd, Int.reduceSub, Int.reduceMul, Int.reduceNeg, Int.reduceLT, Int.reduceLE, Int.reduceEq, if_true, if_false, not_true_eq_false, not_false_eq_true, zw_0, zp_0_2, zw_1, zw_2, zp_2_5, zw_3, zp_3, zw_4, zp_4, zw_5, zp_5, zw_6, zp_6, zw_7, zp_7, zw_8, zw_9, zp_9_5, zw_10, zp_10, zw_11, zp_11, zw_12, zp_12, zw_13, zp_13, zw_14, zp_14, zw_15, zp_15_5, zw_16, zp_16, zw_17, zp_17, zw_18, zp_18, zw_19, zp_19, zw_20, zp_20, zw_65, zw_66, zp_66_5, zw_67, zp_67, zw_68, zp_68, zw_69, zp_69, zw_70, zp_70, zw_71, zp_71, zw_72, zw_73, zp_73_5, zw_74, zp_74, zw_75, zp_75, zw_76, zp_76, zw_77, zp_77, zw_78, zp_78, zw_79, zp_79_5, zw_80, zp_80, zw_81, zp_81, zw_82, zp_82, zw_83, zp_83, zw_84, zp_84, zw_129, zp_129_1, zw_130, zp_130, zw_131, zp_131_1, zw_132, zp_132, zw_133, zp_133_5, zp_133_6, zp_133_7, zw_134, zp_134, zw_135, zp_135, zw_136, zp_136, zw_137, zw_138, zp_138_1, zw_139, zp_139, zw_140, zp_140_1, zw_141, zp_141, zw_142, zp_142, zw_143, zw_144, zp_144_1, zw_145, zp_145, zw_146, zp_146_4, zw_147, zp_147, zw_148, zp_148, zw_149, zp_149, zw_150, zp_150, zw_151, zw_152, zp_152, zw_153, zp_153_1, zp_153_2, zp_153_3, zw_154, zp_154, zw_155, zp_155_1, zp_155_2, zp_155_3, zw_156, zp_156, zw_157, zp_157_1, zp_157_2, zp_157_3, zw_158, zp_158, zw_159, zp_159_1, zp_159_2, zp_159_3, zw_160, zp_160, zw_161, zp_161_1, zp_161_2, zp_161_3, zw_162, zp_162, zw_163, zp_163_1, zp_163_2, zp_163_3, zw_164, zp_164, yg0_0, yg0_1, yg0_2, yg0_3, yg0_4, yg1_0, yg1_1, yg1_2, yg1_3, yg2_0, yg2_1, yg2_2, yg3_0, yg3_1, yg4_0, yg5_0, yg5_1, yg5_2, yg5_3, yg5_4, yg5_5, yg6_0, yg6_1, yg6_2, yg6_3, yg6_4, yg6_5, yg7_0, yg7_1, yg7_2, yg7_3, yg7_4, yg7_5, yg7_6, yg7_7, yg8_0, yg8_1, yg8_2, yg8_3, yg9_0, yg9_1, yg9_2, yg9_3, yg9_4, yg9_5, yg10_0, yg10_1, yg11_0, yg11_1, yg11_2, yg11_3, yg11_4, yg11_5, yg11_6, yg11_7, yg11_8, yg11_9, yg11_10, yp0_0, yp0_1, yp0_2, yp0_3, yp0_4, yp1_0, yp1_1, yp1_2, yp1_3, yp2_0, yp2_1, yp2_2, yp3_0, yp3_1, yp4_0, yp5_0, yp5_1, yp5_2, yp5_3, yp5_4, yp5_5, yp6_0, yp6_1, yp6_2, yp6_3, yp6_4, yp6_5, yp7_0, yp7_1, yp7_2, yp7_3, yp7_4, yp7_5, yp7_6, yp7_7, yp8_0, yp8_1, yp8_2, yp8_3, yp9_0, yp9_1, yp9_2, yp9_3, yp9_4, yp9_5, yp10_0, yp10_1, yp11_0, yp11_1, yp11_2, yp11_3, yp11_4, yp11_5, yp11_6, yp11_7, yp11_8, yp11_9, yp11_10, hc]
    rw [if_neg (by omega)]
    rw [zruns_N 400]
    simp (disch := first | assumption | omega | decide | ((simp (disch := omega) only [zup_ne, zup_eq]); first | assumption | omega)) only [sX0_passHour_10, sX0_passHour_11, sX0_passHour_14, sX0_passHour_15, sX0_passHour_16, sX0_passHour_19, sX0_passHour_20, sX0_passHour_21, sX0_passHour_22, sX0_passHour_25, sX0_passHour_26, sX0_passHour_27, sX0_passHour_28, sX0_passHour_29, sX0_passHour_32, zkp_i, zkp_a, zkp_f, zkp_l, zkp_d, zkp_n, ycl_eq, zI_add, zI_sub, zI_mul, zI_neg, zI_inj, zI_lt, zI_le, zI_eq0, zI_lt0, zI_gt0, zI_le0, zI_ge0, yil_ok, yll_ok, yfl_ok, yis_ok, yls_ok, yfs_ok, y0_s, y1_s, ybo_ok, zset_w, zruns_if, zui_eq, zus_eq, zup_eq, Int.reduceAdd, Int.reduceSub, Int.reduceMul, Int.reduceNeg, Int.reduceLT, Int.reduceLE, Int.reduceEq, if_true, if_false, not_true_eq_false, not_false_eq_true, zw_0, zp_0_2, zw_1, zw_2, zp_2_5, zw_3, zp_3, zw_4, zp_4, zw_5, zp_5, zw_6, zp_6, zw_7, zp_7, zw_8, zw_9, zp_9_5, zw_10, zp_10, zw_11, zp_11, zw_12, zp_12, zw_13, zp_13, zw_14, zp_14, zw_15, zp_15_5, zw_16, zp_16, zw_17, zp_17, zw_18, zp_18, zw_19, zp_19, zw_20, zp_20, zw_65, zw_66, zp_66_5, zw_67, zp_67, zw_68, zp_68, zw_69, zp_69, zw_70, zp_70, zw_71, zp_71, zw_72, zw_73, zp_73_5, zw_74, zp_74, zw_75, zp_75, zw_76, zp_76, zw_77, zp_77, zw_78, zp_78, zw_79, zp_79_5, zw_80, zp_80, zw_81, zp_81, zw_82, zp_82, zw_83, zp_83, zw_84, zp_84, zw_129, zp_129_1, zw_130, zp_130, zw_131, zp_131_1, zw_132, zp_132, zw_133, zp_133_5, zp_133_6, zp_133_7, zw_134, zp_134, zw_135, zp_135, zw_136, zp_136, zw_137, zw_138, zp_138_1, zw_139, zp_139, zw_140, zp_140_1, zw_141, zp_141, zw_142, zp_142, zw_143, zw_144, zp_144_1, zw_145, zp_145, zw_146, zp_146_4, zw_147, zp_147, zw_148, zp_148, zw_149, zp_149, zw_150, zp_150, zw_151, zw_152, zp_152, zw_153, zp_153_1, zp_153_2, zp_153_3, zw_154, zp_154, zw_155, zp_155_1, zp_155_2, zp_155_3, zw_156, zp_156, zw_157, zp_157_1, zp_157_2, zp_157_3, zw_158, zp_158, zw_159, zp_159_1, zp_159_2, zp_159_3, zw_160, zp_160, zw_161, zp_161_1, zp_161_2, zp_161_3, zw_162, zp_162, zw_163, zp_163_1, zp_163_2, zp_163_3, zw_164, zp_164, yg0_0, yg0_1, yg0_2, yg0_3, yg0_4, yg1_0, yg1_1, yg1_2, yg1_3, yg2_0, yg2_1, yg2_2, yg3_0, yg3_1, yg4_0, yg5_0, yg5_1, yg5_2, yg5_3, yg5_4, yg5_5, yg6_0, yg6_1, yg6_2, yg6_3, yg6_4, yg6_5, yg7_0, yg7_1, yg7_2, yg7_3, yg7_4, yg7_5, yg7_6, yg7_7, yg8_0, yg8_1, yg8_2, yg8_3, yg9_0, yg9_1, yg9_2, yg9_3, yg9_4, yg9_5, yg10_0, yg10_1, yg11_0, yg11_1, yg11_2, yg11_3, yg11_4, yg11_5, yg11_6, yg11_7, yg11_8, yg11_9, yg11_10, yp0_0, yp0_1, yp0_2, yp0_3, yp0_4, yp1_0, yp1_1, yp1_2, yp1_3, yp2_0, yp2_1, yp2_2, yp3_0, yp3_1, yp4_0, yp5_0, yp5_1, yp5_2, yp5_3, yp5_4, yp5_5, yp6_0, yp6_1, yp6_2, yp6_3, yp6_4, yp6_5, yp7_0, yp7_1, yp7_2, yp7_3, yp7_4, yp7_5, yp7_6, yp7_7, yp8_0, yp8_1, yp8_2, yp8_3, yp9_0, yp9_1, yp9_2, yp9_3, yp9_4, yp9_5, yp10_0, yp10_1, yp11_0, yp11_1, yp11_2, yp11_3, yp11_4, yp11_5, yp11_6, yp11_7, yp11_8, yp11_9, yp11_10, e1, e2, zkf_ok h3, zup_up]
    rfl
  · rw [zruns_N 400]
    simp (disch := first | assumption | omega | decide | ((simp (disch := omega) only [zup_ne, zup_eq]); first | assumption | omega)) only [sX0_passHour_2, sX0_passHour_3, sX0_passHour_4, sX0_passHour_7, zkp_i, zkp_a, zkp_f, zkp_l, zkp_d, zkp_n, ycl_eq, zI_add, zI_sub, zI_mul, zI_neg, zI_inj, zI_lt, zI_le, zI_eq0, zI_lt0, zI_gt0, zI_le0, zI_ge0, yil_ok, yll_ok, yfl_ok, yis_ok, yls_ok, yfs_ok, y0_s, y1_s, ybo_ok, zset_w, zruns_if, zui_eq, zus_eq, zup_eq, Int.reduceAdd, Int.reduceSub, Int.reduceMul, Int.reduceNeg, Int.reduceLT, Int.reduceLE, Int.reduceEq, if_true, if_false, not_true_eq_false, not_false_eq_true, zw_0, zp_0_2, zw_1, zw_2, zp_2_5, zw_3, zp_3, zw_4, zp_4, zw_5, zp_5, zw_6, zp_6, zw_7, zp_7, zw_8, zw_9, zp_9_5, zw_10, zp_10, zw_11, zp_11, zw_12, zp_12, zw_13, zp_13, zw_14, zp_14, zw_15, zp_15_5, zw_16, zp_16, zw_17, zp_17, zw_18, zp_18, zw_19, zp_19, zw_20, zp_20, zw_65, zw_66, zp_66_5, zw_67, zp_67, zw_68, zp_68, zw_69, zp_69, zw_70, zp_70, zw_71, zp_71, zw_72, zw_73, zp_73_5, zw_74, zp_74, zw_75, zp_75, zw_76, zp_76, zw_77, zp_77, zw_78, zp_78, zw_79, zp_79_5, zw_80, zp_80, zw_81, zp_81, zw_82, zp_82, zw_83, zp_83, zw_84, zp_84, zw_129, zp_129_1, zw_130, zp_130, zw_131, zp_131_1, zw_132, zp_132, zw_133, zp_133_5, zp_133_6, zp_133_7, zw_134, zp_134, zw_135, zp_135, zw_136, zp_136, zw_137, zw_138, zp_138_1, zw_139, zp_139, zw_140, zp_140_1, zw_141, zp_141, zw_142, zp_142, zw_143, zw_144, zp_144_1, zw_145, zp_145, zw_146, zp_146_4, zw_147, zp_147, zw_148, zp_148, zw_149, zp_149, zw_150, zp_150, zw_151, zw_152, zp_152, zw_153, zp_153_1, zp_153_2, zp_153_3, zw_154, zp_154, zw_155, zp_155_1, zp_155_2, zp_155_3, zw_156, zp_156, zw_157, zp_157_1, zp_157_2, zp_157_3, zw_158, zp_158, zw_159, zp_159_1, zp_159_2, zp_159_3, zw_160, zp_160, zw_161, zp_161_1, zp_161_2, zp_161_3, zw_162, zp_162, zw_163, zp_163_1, zp_163_2, zp_163_3, zw_164, zp_164, yg0_0, yg0_1, yg0_2, yg0_3, yg0_4, yg1_0, yg1_1, yg1_2, yg1_3, yg2_0, yg2_1, yg2_2, yg3_0, yg3_1, yg4_0, yg5_0, yg5_1, yg5_2, yg5_3, yg5_4, yg5_5, yg6_0, yg6_1, yg6_2, yg6_3, yg6_4, yg6_5, yg7_0, yg7_1, yg7_2, yg7_3, yg7_4, yg7_5, yg7_6, yg7_7, yg8_0, yg8_1, yg8_2, yg8_3, yg9_0, yg9_1, yg9_2, yg9_3, yg9_4, yg9_5, yg10_0, yg10_1, yg11_0, yg11_1, yg11_2, yg11_3, yg11_4, yg11_5, yg11_6, yg11_7, yg11_8, yg11_9, yg11_10, yp0_0, yp0_1, yp0_2, yp0_3, yp0_4, yp1_0, yp1_1, yp1_2, yp1_3, yp2_0, yp2_1, yp2_2, yp3_0, yp3_1, yp4_0, yp5_0, yp5_1, yp5_2, yp5_3, yp5_4, yp5_5, yp6_0, yp6_1, yp6_2, yp6_3, yp6_4, yp6_5, yp7_0, yp7_1, yp7_2, yp7_3, yp7_4, yp7_5, yp7_6, yp7_7, yp8_0, yp8_1, yp8_2, yp8_3, yp9_0, yp9_1, yp9_2, yp9_3, yp9_4, yp9_5, yp10_0, yp10_1, yp11_0, yp11_1, yp11_2, yp11_3, yp11_4, yp11_5, yp11_6, yp11_7, yp11_8, yp11_9, yp11_10, hc]
    rw [if_pos (by omega)]
    rw [zruns_N 400]
    simp (disch := first | assumption | omega | decide | ((simp (disch := omega) only [zup_ne, zup_eq]); first | assumption | omega)) only [sX0_passHour_35, zkp_i, zkp_a, zkp_f, zkp_l, zkp_d, zkp_n, ycl_eq, zI_add, zI_sub, zI_mul, zI_neg, zI_inj, zI_lt, zI_le, zI_eq0, zI_lt0, zI_gt0, zI_le0, zI_ge0, yil_ok, yll_ok, yfl_ok, yis_ok, yls_ok, yfs_ok, y0_s, y1_s, ybo_ok, zset_w, zruns_if, zui_eq, zus_eq, zup_eq, Int.reduceAdd, Int.reduceSub, Int.reduceMul, Int.reduceNeg, Int.reduceLT, Int.reduceLE, Int.reduceEq, if_true, if_false, not_true_eq_false, not_false_eq_true, zw_0, zp_0_2, zw_1, zw_2, zp_2_5, zw_3, zp_3, zw_4, zp_4, zw_5, zp_5, zw_6, zp_6, zw_7, zp_7, zw_8, zw_9, zp_9_5, zw_10, zp_10, zw_11, zp_11, zw_12, zp_12, zw_13, zp_13, zw_14, zp_14, zw_15, zp_15_5, zw_16, zp_16, zw_17, zp_17, zw_18, zp_18, zw_19, zp_19, zw_20, zp_20, zw_65, zw_66, zp_66_5, zw_67, zp_67, zw_68, zp_68, zw_69, zp_69, zw_70, zp_70, zw_71, zp_71, zw_72, zw_73, zp_73_5, zw_74, zp_74, zw_75, zp_75, zw_76, zp_76, zw_77, zp_77, zw_78, zp_78, zw_79, zp_79_5, zw_80, zp_80, zw_81, zp_81, zw_82, zp_82, zw_83, zp_83, zw_84, zp_84, zw_129, zp_129_1, zw_130, zp_130, zw_131, zp_131_1, zw_132, zp_132, zw_133, zp_133_5, zp_133_6, zp_133_7, zw_134, zp_134, zw_135, zp_135, zw_136, zp_136, zw_137, zw_138, zp_138_1, zw_139, zp_139, zw_140, zp_140_1, zw_141, zp_141, zw_142, zp_142, zw_143, zw_144, zp_144_1, zw_145, zp_145, zw_146, zp_146_4, zw_147, zp_147, zw_148, zp_148, zw_149, zp_149, zw_150, zp_150, zw_151, zw_152, zp_152, zw_153, zp_153_1, zp_153_2, zp_153_3, zw_154, zp_154, zw_155, zp_155_1, zp_155_2, zp_155_3, zw_156, zp_156, zw_157, zp_157_1, zp_157_2, zp_157_3, zw_158, zp_158, zw_159, zp_159_1, zp_159_2, zp_159_3, zw_160, zp_160, zw_161, zp_161_1, zp_161_2, zp_161_3, zw_162, zp_162, zw_163, zp_163_1, zp_163_2, zp_163_3, zw_164, zp_164, yg0_0, yg0_1, yg0_2, yg0_3, yg0_4, yg1_0, yg1_1, yg1_2, yg1_3, yg2_0, yg2_1, yg2_2, yg3_0, yg3_1, yg4_0, yg5_0, yg5_1, yg5_2, yg5_3, yg5_4, yg5_5, yg6_0, yg6_1, yg6_2, yg6_3, yg6_4, yg6_5, yg7_0, yg7_1, yg7_2, yg7_3, yg7_4, yg7_5, yg7_6, yg7_7, yg8_0, yg8_1, yg8_2, yg8_3, yg9_0, yg9_1, yg9_2, yg9_3, yg9_4, yg9_5, yg10_0, yg10_1, yg11_0, yg11_1, yg11_2, yg11_3, yg11_4, yg11_5, yg11_6, yg11_7, yg11_8, yg11_9, yg11_10, yp0_0, yp0_1, yp0_2, yp0_3, yp0_4, yp1_0, yp1_1, yp1_2, yp1_3, yp2_0, yp2_1, yp2_2, yp3_0, yp3_1, yp4_0, yp5_0, yp5_1, yp5_2, yp5_3, yp5_4, yp5_5, yp6_0, yp6_1, yp6_2, yp6_3, yp6_4, yp6_5, yp7_0, yp7_1, yp7_2, yp7_3, yp7_4, yp7_5, yp7_6, yp7_7, yp8_0, yp8_1, yp8_2, yp8_3, yp9_0, yp9_1, yp9_2, yp9_3, yp9_4, yp9_5, yp10_0, yp10_1, yp11_0, yp11_1, yp11_2, yp11_3, yp11_4, yp11_5, yp11_6, yp11_7, yp11_8, yp11_9, yp11_10]
end AIR
