/-! ===== texts written ===== -/
/-- signs written behind place n -/
def zapp (T : Int → Int) (n : Int) : List Int → Int → Int
  | [] => T
  | v :: l => zapp (zui T n v) (n + 1) l
theorem zapp_app : ∀ (l m : List Int) (T : Int → Int) (n : Int), zapp T n (l ++ m) = zapp (zapp T n l) (n + l.length) m := by
  intro l
  induction l with
  | nil => intro m T n; show zapp T n m = zapp T (n + ((0 : Nat) : Int)) m; rw [show n + ((0 : Nat) : Int) = n by omega]
  | cons v l ih =>
    intro m T n
    show zapp (zui T n v) (n + 1) (l ++ m) = zapp (zapp (zui T n v) (n + 1) l) (n + ((l.length + 1 : Nat) : Int)) m
    rw [ih, show n + 1 + (l.length : Int) = n + ((l.length + 1 : Nat) : Int) by omega]
theorem zapp_1 {l : List Int} {T : Int → Int} {n v : Int} : zui (zapp T n l) (n + l.length) v = zapp T n (l ++ [v]) := by
  rw [zapp_app]
  rfl
theorem zapp_z {T : Int → Int} (h : ∀ j, zr (T j)) : ∀ (l : List Int) (n : Int), (∀ v, v ∈ l → zr v) → ∀ j, zr (zapp T n l j) := by
  intro l
  induction l generalizing T with
  | nil => intro n _; exact h
  | cons v l ih =>
    intro n hv
    exact ih (zr_ui h (hv v (List.mem_cons_self ..))) (n + 1) (fun u hu => hv u (List.mem_cons_of_mem _ hu))
theorem zapp_lt {j : Int} : ∀ (l : List Int) (T : Int → Int) (n : Int), j < n → zapp T n l j = T j := by
  intro l
  induction l with
  | nil => intro T n _; rfl
  | cons v l ih =>
    intro T n h
    show zapp (zui T n v) (n + 1) l j = T j
    rw [ih _ _ (by omega), zui_ne (by omega)]
theorem zapp_eq {T U : Int → Int} : ∀ (l : List Int) (T U : Int → Int) (n j : Int), n ≤ j → j < n + l.length → zapp T n l j = zapp U n l j ∧ zapp T n l j ∈ l := by
  intro l
  induction l with
  | nil => intro T U n j a c; simp at c; omega
  | cons v l ih =>
    intro T U n j a c
    have c : j < n + ((l.length + 1 : Nat) : Int) := c
    show zapp (zui T n v) (n + 1) l j = zapp (zui U n v) (n + 1) l j ∧ zapp (zui T n v) (n + 1) l j ∈ v :: l
    by_cases e : j = n
    · subst e
      rw [zapp_lt _ _ _ (by omega), zapp_lt _ _ _ (by omega), zui_eq, zui_eq]
      exact ⟨rfl, List.mem_cons_self ..⟩
    · obtain ⟨h1, h2⟩ := ih (zui T n v) (zui U n v) (n + 1) j (by omega) (by omega)
      exact ⟨h1, List.mem_cons_of_mem _ h2⟩
/-- the first signs of f -/
def zlt' (f : Nat → Int) : Nat → List Int
  | 0 => []
  | i + 1 => zlt' f i ++ [f i]
theorem zlt_len {f : Nat → Int} : ∀ i, (zlt' f i).length = i := by
  intro i
  induction i with
  | zero => rfl
  | succ i ih => rw [zlt', List.length_append, ih]; rfl
theorem zlt_mem {f : Nat → Int} {P : Int → Prop} : ∀ i, (∀ k, k < i → P (f k)) → ∀ v, v ∈ zlt' f i → P v := by
  intro i
  induction i with
  | zero => intro _ v hv; cases hv
  | succ i ih =>
    intro h v hv
    rw [zlt'] at hv
    rcases List.mem_append.1 hv with q | q
    · exact ih (fun k hk => h k (by omega)) v q
    · rw [List.mem_singleton.1 q]
      exact h i (by omega)
/-- the figures of a number up to 9999 -/
def zdg (v : Int) : List Int := if v < 10 then [48 + v % 10] else if v < 100 then [48 + v / 10 % 10, 48 + v % 10] else if v < 1000 then [48 + v / 100 % 10, 48 + v / 10 % 10, 48 + v % 10] else [48 + v / 1000 % 10, 48 + v / 100 % 10, 48 + v / 10 % 10, 48 + v % 10]
theorem zdg_len {v : Int} : 1 ≤ (zdg v).length ∧ (zdg v).length ≤ 4 := by
  unfold zdg
  split
  · show 1 ≤ 1 ∧ 1 ≤ 4; decide
  · split
    · show 1 ≤ 2 ∧ 2 ≤ 4; decide
    · split
      · show 1 ≤ 3 ∧ 3 ≤ 4; decide
      · show 1 ≤ 4 ∧ 4 ≤ 4; decide
theorem zdg_mem {v u : Int} (hu : u ∈ zdg v) : 48 ≤ u ∧ u ≤ 57 := by
  unfold zdg at hu
  split at hu
  · simp only [List.mem_cons, List.not_mem_nil, or_false] at hu
    omega
  · split at hu
    · simp only [List.mem_cons, List.not_mem_nil, or_false] at hu
      omega
    · split at hu
      · simp only [List.mem_cons, List.not_mem_nil, or_false] at hu
        omega
      · simp only [List.mem_cons, List.not_mem_nil, or_false] at hu
        omega
/-- a part as it is written behind n signs -/
def zpl (f : Nat → Int) (m : Nat) (n v : Int) : List Int := (if 0 < n then [59] else []) ++ (zlt' f m ++ (61 :: zdg v))
theorem zpl_len {f : Nat → Int} {m : Nat} {n v : Int} (hm : m ≤ 7) : (zpl f m n v).length ≤ 13 := by
  unfold zpl
  rw [List.length_append, List.length_append, zlt_len, List.length_cons]
  have := zdg_len (v := v)
  split
  · show 1 + _ ≤ 13; omega
  · show 0 + _ ≤ 13; omega
theorem zpl_mem {f : Nat → Int} {m : Nat} {n v u : Int} (hf : ∀ k, k < m → 97 ≤ f k ∧ f k ≤ 122) (hu : u ∈ zpl f m n v) : 0 ≤ u ∧ u ≤ 127 := by
  unfold zpl at hu
  rcases List.mem_append.1 hu with q | q
  · split at q
    · rw [List.mem_singleton.1 q]; decide
    · cases q
  · rcases List.mem_append.1 q with q | q
    · have := zlt_mem (P := fun u => 97 ≤ u ∧ u ≤ 122) m hf u q
      omega
    · rcases List.mem_cons.1 q with q | q
      · rw [q]; decide
      · have := zdg_mem q
        omega
section TEXT
variable {d b : Nat} {z : Nat × Nat} {σ : Nat → Nat → Int} {α lo : Nat → Int → Int} {φ : Nat → Int → UInt32}
theorem tX10_app {n v : Int} {T : Int → Int} (hn : 0 ≤ n ∧ n < 520) (hv : 0 ≤ v ∧ v < 128) : zcall (d + 1) kX10_append [.ref (b + 131), .int (zI v)] (z, zw b (zus σ 131 1 n) (zup α 132 T) lo φ) = some (none, (z, zw b (zus σ 131 1 (n + 1)) (zup α 132 (zui T n v)) lo φ)) := by
  rw [tX10_append (k := 131) (n := 520) ⟨by decide, by decide, by decide, by decide, by decide⟩ (by rw [zus_eq]; exact hn) hv, zus_eq, zus_zus, zup_eq, zup_up]
theorem tX10_appendNumber {n v : Int} {T : Int → Int} (hn : 0 ≤ n ∧ n + 4 ≤ 520) (hv : 0 ≤ v ∧ v ≤ 9999) : zcall (d + 2) kX10_appendNumber [.ref (b + 131), .int (zI v)] (z, zw b (zus σ 131 1 n) (zup α 132 T) lo φ) = some (none, (z, zw b (zus σ 131 1 (n + (zdg v).length)) (zup α 132 (zapp T n (zdg v))) lo φ)) := by
  have ha : ∀ (n u : Int) (T : Int → Int), 0 ≤ n ∧ n < 520 → 0 ≤ u ∧ u < 128 → ∀ d z, zcall (d + 1) kX10_append [.ref (b + 131), .int (zI u)] (z, zw b (zus σ 131 1 n) (zup α 132 T) lo φ) = some (none, (z, zw b (zus σ 131 1 (n + 1)) (zup α 132 (zui T n u)) lo φ)) := fun n u T h1 h2 d z => tX10_app h1 h2
  have hk : ∀ x y : zC, zw b (zus σ 131 1 n) (zup α 132 T) lo φ = zw b (zus σ 131 1 n) (zup α 132 T) lo φ := fun _ _ => rfl
  rw [qX10_appendNumber rfl]
  by_cases h1 : v < 10
  · rw [show zdg v = [48 + v % 10] from if_pos h1]
    have a1 := ha n (48 + v / 1 % 10) T (by omega) (by omega)
    rw [Int.ediv_one] at a1
    repeat' (first | rfl | (exfalso; first | omega | contradiction) | split | (rw [zruns_N 400]; simp (disch := first | assumption | omega | decide | ((simp (disch := omega) only [zup_ne, zup_eq]); first | assumption | omega)) only [sX10_appendNumber_0, sX10_appendNumber_3, sX10_appendNumber_4, sX10_appendNumber_5, sX10_appendNumber_8, sX10_appendNumber_9, sX10_appendNumber_10, sX10_appendNumber_13, sX10_appendNumber_14, sX10_appendNumber_15, sX10_appendNumber_18, sX10_appendNumber_19, sX10_appendNumber_21, sX10_appendNumber_22, sX10_appendNumber_23, sX10_appendNumber_24, sX10_appendNumber_26, sX10_appendNumber_27, sX10_appendNumber_28, sX10_appendNumber_31, sX10_appendNumber_32, sX10_appendNumber_34, sX10_appendNumber_35, sX10_appendNumber_36, sX10_appendNumber_39, zkp_i, zkp_a, zkp_f, zkp_l, zkp_d, zkp_n, ycl_eq, zI_add, zI_sub, zI_mul, zI_neg, zI_inj, zI_lt, zI_le, zI_eq0, zI_lt0, zI_gt0, zI_le0, zI_ge0, yil_ok, yll_ok, yfl_ok, yis_ok, yls_ok, yfs_ok, y0_s, y1_s, ybo_ok, zset_w, zruns_if, zui_eq, zus_eq, zup_eq, Int.reduceAdd, Int.reduceSub, Int.reduceMul, Int.reduceNeg, Int.reduceLT, Int.reduceLE, Int.reduceEq, if_true, if_false, not_true_eq_false, not_false_eq_true, zw_0, zp_0_2, zw_1, zw_2, zp_2_5, zw_3, zp_3, zw_4, zp_4, zw_5, zp_5, zw_6, zp_6, zw_7, zp_7, zw_8, zw_9, zp_9_5, zw_10, zp_10, zw_11, zp_11, zw_12, zp_12, zw_13, zp_13, zw_14, zp_14, zw_15, zp_15_5, zw_16, zp_16, zw_17, zp_17, zw_18, zp_18, zw_19, zp_19, zw_20, zp_20, zw_65, zw_66, zp_66_5, zw_67, zp_67, zw_68, zp_68, zw_69, zp_69, zw_70, zp_70, zw_71, zp_71, zw_72, zw_73, zp_73_5, zw_74, zp_74, zw_75, zp_75, zw_76, zp_76, zw_77, zp_77, zw_78, zp_78, zw_79, zp_79_5, zw_80, zp_80, zw_81, zp_81, zw_82, zp_82, zw_83, zp_83, zw_84, zp_84, zw_129, zp_129_1, zw_130, zp_130, zw_131, zp_131_1, zw_132, zp_132, zw_133, zp_133_5, zp_133_6, zp_133_7, zw_134, zp_134, zw_135, zp_135, zw_136, zp_136, zw_137, zw_138, zp_138_1, zw_139, zp_139, zw_140, zp_140_1, zw_141, zp_141, zw_142, zp_142, zw_143, zw_144, zp_144_1, zw_145, zp_145, zw_146, zp_146_4, zw_147, zp_147, zw_148, zp_148, zw_149, zp_149, zw_150, zp_150, zw_151, zw_152, zp_152, zw_153, zp_153_1, zp_153_2, zp_153_3, zw_154, zp_154, zw_155, zp_155_1, zp_155_2, zp_155_3, zw_156, zp_156, zw_157, zp_157_1, zp_157_2, zp_157_3, zw_158, zp_158, zw_159, zp_159_1, zp_159_2, zp_159_3, zw_160, zp_160, zw_161, zp_161_1, zp_161_2, zp_161_3, zw_162, zp_162, zw_163, zp_163_1, zp_163_2, zp_163_3, zw_164, zp_164, yg0_0, yg0_1, yg0_2, yg0_3, yg0_4, yg1_0, yg1_1, yg1_2, yg1_3, yg2_0, yg2_1, yg2_2, yg3_0, yg3_1, yg4_0, yg5_0, yg5_1, yg5_2, yg5_3, yg5_4, yg5_5, yg6_0, yg6_1, yg6_2, yg6_3, yg6_4, yg6_5, yg7_0, yg7_1, yg7_2, yg7_3, yg7_4, yg7_5, yg7_6, yg7_7, yg8_0, yg8_1, yg8_2, yg8_3, yg9_0, yg9_1, yg9_2, yg9_3, yg9_4, yg9_5, yg10_0, yg10_1, yg11_0, yg11_1, yg11_2, yg11_3, yg11_4, yg11_5, yg11_6, yg11_7, yg11_8, yg11_9, yg11_10, yp0_0, yp0_1, yp0_2, yp0_3, yp0_4, yp1_0, yp1_1, yp1_2, yp1_3, yp2_0, yp2_1, yp2_2, yp3_0, yp3_1, yp4_0, yp5_0, yp5_1, yp5_2, yp5_3, yp5_4, yp5_5, yp6_0, yp6_1, yp6_2, yp6_3, yp6_4, yp6_5, yp7_0, yp7_1, yp7_2, yp7_3, yp7_4, yp7_5, yp7_6, yp7_7, yp8_0, yp8_1, yp8_2, yp8_3, yp9_0, yp9_1, yp9_2, yp9_3, yp9_4, yp9_5, yp10_0, yp10_1, yp11_0, yp11_1, yp11_2, yp11_3, yp11_4, yp11_5, yp11_6, yp11_7, yp11_8, yp11_9, yp11_10, a1, zL_add, zL_sub, zL_mul, zI_i2l, zL_l2i, zL_lt, zL_le, zL_inj, lz_ge, lz_le, lz_gt, lz_lt, lz_eq, zL_div, zI_div, zdv_ok, zdl_ok, zI_mod, Int.reduceDiv, Int.ediv_one, Int.reduceMod]))
  · by_cases h2 : v < 100
    · rw [show zdg v = [48 + v / 10 % 10, 48 + v % 10] from by unfold zdg; rw [if_neg h1, if_pos h2]]
      have a1 := ha n (48 + v / 10 % 10) T (by omega) (by omega)
      have a2 := ha (n + 1) (48 + v % 10) (zui T n (48 + v / 10 % 10)) (by omega) (by omega)
      change _ = some (none, (z, zw b (zus σ 131 1 (n + ((2 : Nat) : Int))) (zup α 132 (zui (zui T n (48 + v / 10 % 10)) (n + 1) (48 + v % 10))) lo φ))
      rw [show n + ((2 : Nat) : Int) = n + 1 + 1 by omega]
      repeat' (first | rfl | (exfalso; first | omega | contradiction) | split | (rw [zruns_N 400]; simp (disch := first | assumption | omega | decide | ((simp (disch := omega) only [zup_ne, zup_eq]); first | assumption | omega)) only [sX10_appendNumber_0, sX10_appendNumber_3, sX10_appendNumber_4, sX10_appendNumber_5, sX10_appendNumber_8, sX10_appendNumber_9, sX10_appendNumber_10, sX10_appendNumber_13, sX10_appendNumber_14, sX10_appendNumber_15, sX10_appendNumber_18, sX10_appendNumber_19, sX10_appendNumber_21, sX10_appendNumber_22, sX10_appendNumber_23, sX10_appendNumber_24, sX10_appendNumber_26, sX10_appendNumber_27, sX10_appendNumber_28, sX10_appendNumber_31, sX10_appendNumber_32, sX10_appendNumber_34, sX10_appendNumber_35, sX10_appendNumber_36, sX10_appendNumber_39, zkp_i, zkp_a, zkp_f, zkp_l, zkp_d, zkp_n, ycl_eq, zI_add, zI_sub, zI_mul, zI_neg, zI_inj, zI_lt, zI_le, zI_eq0, zI_lt0, zI_gt0, zI_le0, zI_ge0, yil_ok, yll_ok, yfl_ok, yis_ok, yls_ok, yfs_ok, y0_s, y1_s, ybo_ok, zset_w, zruns_if, zui_eq, zus_eq, zup_eq, Int.reduceAdd, Int.reduceSub, Int.reduceMul, Int.reduceNeg, Int.reduceLT, Int.reduceLE, Int.reduceEq, if_true, if_false, not_true_eq_false, not_false_eq_true, zw_0, zp_0_2, zw_1, zw_2, zp_2_5, zw_3, zp_3, zw_4, zp_4, zw_5, zp_5, zw_6, zp_6, zw_7, zp_7, zw_8, zw_9, zp_9_5, zw_10, zp_10, zw_11, zp_11, zw_12, zp_12, zw_13, zp_13, zw_14, zp_14, zw_15, zp_15_5, zw_16, zp_16, zw_17, zp_17, zw_18, zp_18, zw_19, zp_19, zw_20, zp_20, zw_65, zw_66, zp_66_5, zw_67, zp_67, zw_68, zp_68, zw_69, zp_69, zw_70, zp_70, zw_71, zp_71, zw_72, zw_73, zp_73_5, zw_74, zp_74, zw_75, zp_75, zw_76, zp_76, zw_77, zp_77, zw_78, zp_78, zw_79, zp_79_5, zw_80, zp_80, zw_81, zp_81, zw_82, zp_82, zw_83, zp_83, zw_84, zp_84, zw_129, zp_129_1, zw_130, zp_130, zw_131, zp_131_1, zw_132, zp_132, zw_133, zp_133_5, zp_133_6, zp_133_7, zw_134, zp_134, zw_135, zp_135, zw_136, zp_136, zw_137, zw_138, zp_138_1, zw_139, zp_139, zw_140, zp_140_1, zw_141, zp_141, zw_142, zp_142, zw_143, zw_144, zp_144_1, zw_145, zp_145, zw_146, zp_146_4, zw_147, zp_147, zw_148, zp_148, zw_149, zp_149, zw_150, zp_150, zw_151, zw_152, zp_152, zw_153, zp_153_1, zp_153_2, zp_153_3, zw_154, zp_154, zw_155, zp_155_1, zp_155_2, zp_155_3, zw_156, zp_156, zw_157, zp_157_1, zp_157_2, zp_157_3, zw_158, zp_158, zw_159, zp_159_1, zp_159_2, zp_159_3, zw_160, zp_160, zw_161, zp_161_1, zp_161_2, zp_161_3, zw_162, zp_162, zw_163, zp_163_1, zp_163_2, zp_163_3, zw_164, zp_164, yg0_0, yg0_1, yg0_2, yg0_3, yg0_4, yg1_0, yg1_1, yg1_2, yg1_3, yg2_0, yg2_1, yg2_2, yg3_0, yg3_1, yg4_0, yg5_0, yg5_1, yg5_2, yg5_3, yg5_4, yg5_5, yg6_0, yg6_1, yg6_2, yg6_3, yg6_4, yg6_5, yg7_0, yg7_1, yg7_2, yg7_3, yg7_4, yg7_5, yg7_6, yg7_7, yg8_0, yg8_1, yg8_2, yg8_3, yg9_0, yg9_1, yg9_2, yg9_3, yg9_4, yg9_5, yg10_0, yg10_1, yg11_0, yg11_1, yg11_2, yg11_3, yg11_4, yg11_5, yg11_6, yg11_7, yg11_8, yg11_9, yg11_10, yp0_0, yp0_1, yp0_2, yp0_3, yp0_4, yp1_0, yp1_1, yp1_2, yp1_3, yp2_0, yp2_1, yp2_2, yp3_0, yp3_1, yp4_0, yp5_0, yp5_1, yp5_2, yp5_3, yp5_4, yp5_5, yp6_0, yp6_1, yp6_2, yp6_3, yp6_4, yp6_5, yp7_0, yp7_1, yp7_2, yp7_3, yp7_4, yp7_5, yp7_6, yp7_7, yp8_0, yp8_1, yp8_2, yp8_3, yp9_0, yp9_1, yp9_2, yp9_3, yp9_4, yp9_5, yp10_0, yp10_1, yp11_0, yp11_1, yp11_2, yp11_3, yp11_4, yp11_5, yp11_6, yp11_7, yp11_8, yp11_9, yp11_10, a1, a2, zL_add, zL_sub, zL_mul, zI_i2l, zL_l2i, zL_lt, zL_le, zL_inj, lz_ge, lz_le, lz_gt, lz_lt, lz_eq, zL_div, zI_div, zdv_ok, zdl_ok, zI_mod, Int.reduceDiv, Int.ediv_one, Int.reduceMod]))
    · by_cases h3 : v < 1000
      · rw [show zdg v = [48 + v / 100 % 10, 48 + v / 10 % 10, 48 + v % 10] from by unfold zdg; rw [if_neg h1, if_neg h2, if_pos h3]]
        have a1 := ha n (48 + v / 100 % 10) T (by omega) (by omega)
        have a2 := ha (n + 1) (48 + v / 10 % 10) (zui T n (48 + v / 100 % 10)) (by omega) (by omega)
        have a3 := ha (n + 1 + 1) (48 + v % 10) (zui (zui T n (48 + v / 100 % 10)) (n + 1) (48 + v / 10 % 10)) (by omega) (by omega)
        change _ = some (none, (z, zw b (zus σ 131 1 (n + ((3 : Nat) : Int))) (zup α 132 (zui (zui (zui T n (48 + v / 100 % 10)) (n + 1) (48 + v / 10 % 10)) (n + 1 + 1) (48 + v % 10))) lo φ))
        rw [show n + ((3 : Nat) : Int) = n + 1 + 1 + 1 by omega]
        repeat' (first | rfl | (exfalso; first | omega | contradiction) | split | (rw [zruns_N 400]; simp (disch := first | assumption | omega | decide | ((simp (disch := omega) only [zup_ne, zup_eq]); first | assumption | omega)) only [sX10_appendNumber_0, sX10_appendNumber_3, sX10_appendNumber_4, sX10_appendNumber_5, sX10_appendNumber_8, sX10_appendNumber_9, sX10_appendNumber_10, sX10_appendNumber_13, sX10_appendNumber_14, sX10_appendNumber_15, sX10_appendNumber_18, sX10_appendNumber_19, sX10_appendNumber_21, sX10_appendNumber_22, sX10_appendNumber_23, sX10_appendNumber_24, sX10_appendNumber_26, sX10_appendNumber_27, sX10_appendNumber_28, sX10_appendNumber_31, sX10_appendNumber_32, sX10_appendNumber_34, sX10_appendNumber_35, sX10_appendNumber_36, sX10_appendNumber_39, zkp_i, zkp_a, zkp_f, zkp_l, zkp_d, zkp_n, ycl_eq, zI_add, zI_sub, zI_mul, zI_neg, zI_inj, zI_lt, zI_le, zI_eq0, zI_lt0, zI_gt0, zI_le0, zI_ge0, yil_ok, yll_ok, yfl_ok, yis_ok, yls_ok, yfs_ok, y0_s, y1_s, ybo_ok, zset_w, zruns_if, zui_eq, zus_eq, zup_eq, Int.reduceAdd, Int.reduceSub, Int.reduceMul, Int.reduceNeg, Int.reduceLT, Int.reduceLE, Int.reduceEq, if_true, if_false, not_true_eq_false, not_false_eq_true, zw_0, zp_0_2, zw_1, zw_2, zp_2_5, zw_3, zp_3, zw_4, zp_4, zw_5, zp_5, zw_6, zp_6, zw_7, zp_7, zw_8, zw_9, zp_9_5, zw_10, zp_10, zw_11, zp_11, zw_12, zp_12, zw_13, zp_13, zw_14, zp_14, zw_15, zp_15_5, zw_16, zp_16, zw_17, zp_17, zw_18, zp_18, zw_19, zp_19, zw_20, zp_20, zw_65, zw_66, zp_66_5, zw_67, zp_67, zw_68, zp_68, zw_69, zp_69, zw_70, zp_70, zw_71, zp_71, zw_72, zw_73, zp_73_5, zw_74, zp_74, zw_75, zp_75, zw_76, zp_76, zw_77, zp_77, zw_78, zp_78, zw_79, zp_79_5, zw_80, zp_80, zw_81, zp_81, zw_82, zp_82, zw_83, zp_83, zw_84, zp_84, zw_129, zp_129_1, zw_130, zp_130, zw_131, zp_131_1, zw_132, zp_132, zw_133, zp_133_5, zp_133_6, zp_133_7, zw_134, zp_134, zw_135, zp_135, zw_136, zp_136, zw_137, zw_138, zp_138_1, zw_139, zp_139, zw_140, zp_140_1, zw_141, zp_141, zw_142, zp_142, zw_143, zw_144, zp_144_1, zw_145, zp_145, zw_146, zp_146_4, zw_147, zp_147, zw_148, zp_148, zw_149, zp_149, zw_150, zp_150, zw_151, zw_152, zp_152, zw_153, zp_153_1, zp_153_2, zp_153_3, zw_154, zp_154, zw_155, zp_155_1, zp_155_2, zp_155_3, zw_156, zp_156, zw_157, zp_157_1, zp_157_2, zp_157_3, zw_158, zp_158, zw_159, zp_159_1, zp_159_2, zp_159_3, zw_160, zp_160, zw_161, zp_161_1, zp_161_2, zp_161_3, zw_162, zp_162, zw_163, zp_163_1, zp_163_2, zp_163_3, zw_164, zp_164, yg0_0, yg0_1, yg0_2, yg0_3, yg0_4, yg1_0, yg1_1, yg1_2, yg1_3, yg2_0, yg2_1, yg2_2, yg3_0, yg3_1, yg4_0, yg5_0, yg5_1, yg5_2, yg5_3, yg5_4, yg5_5, yg6_0, yg6_1, yg6_2, yg6_3, yg6_4, yg6_5, yg7_0, yg7_1, yg7_2, yg7_3, yg7_4, yg7_5, yg7_6, yg7_7, yg8_0, yg8_1, yg8_2, yg8_3, yg9_0, yg9_1, yg9_2, yg9_3, yg9_4, yg9_5, yg10_0, yg10_1, yg11_0, yg11_1, yg11_2, yg11_3, yg11_4, yg11_5, yg11_6, yg11_7, yg11_8, yg11_9, yg11_10, yp0_0, yp0_1, yp0_2, yp0_3, yp0_4, yp1_0, yp1_1, yp1_2, yp1_3, yp2_0, yp2_1, yp2_2, yp3_0, yp3_1, yp4_0, yp5_0, yp5_1, yp5_2, yp5_3, yp5_4, yp5_5, yp6_0, yp6_1, yp6_2, yp6_3, yp6_4, yp6_5, yp7_0, yp7_1, yp7_2, yp7_3, yp7_4, yp7_5, yp7_6, yp7_7, yp8_0, yp8_1, yp8_2, yp8_3, yp9_0, yp9_1, yp9_2, yp9_3, yp9_4, yp9_5, yp10_0, yp10_1, yp11_0, yp11_1, yp11_2, yp11_3, yp11_4, yp11_5, yp11_6, yp11_7, yp11_8, yp11_9, yp11_10, a1, a2, a3, zL_add, zL_sub, zL_mul, zI_i2l, zL_l2i, zL_lt, zL_le, zL_inj, lz_ge, lz_le, lz_gt, lz_lt, lz_eq, zL_div, zI_div, zdv_ok, zdl_ok, zI_mod, Int.reduceDiv, Int.ediv_one, Int.reduceMod]))
      · rw [show zdg v = [48 + v / 1000 % 10, 48 + v / 100 % 10, 48 + v / 10 % 10, 48 + v % 10] from by unfold zdg; rw [if_neg h1, if_neg h2, if_neg h3]]
        have a1 := ha n (48 + v / 1000 % 10) T (by omega) (by omega)
        have a2 := ha (n + 1) (48 + v / 100 % 10) (zui T n (48 + v / 1000 % 10)) (by omega) (by omega)
        have a3 := ha (n + 1 + 1) (48 + v / 10 % 10) (zui (zui T n (48 + v / 1000 % 10)) (n + 1) (48 + v / 100 % 10)) (by omega) (by omega)
        have a4 := ha (n + 1 + 1 + 1) (48 + v % 10) (zui (zui (zui T n (48 + v / 1000 % 10)) (n + 1) (48 + v / 100 % 10)) (n + 1 + 1) (48 + v / 10 % 10)) (by omega) (by omega)
        change _ = some (none, (z, zw b (zus σ 131 1 (n + ((4 : Nat) : Int))) (zup α 132 (zui (zui (zui (zui T n (48 + v / 1000 % 10)) (n + 1) (48 + v / 100 % 10)) (n + 1 + 1) (48 + v / 10 % 10)) (n + 1 + 1 + 1) (48 + v % 10))) lo φ))
        rw [show n + ((4 : Nat) : Int) = n + 1 + 1 + 1 + 1 by omega]
        repeat' (first | rfl | (exfalso; first | omega | contradiction) | split | (rw [zruns_N 400]; simp (disch := first | assumption | omega | decide | ((simp (disch := omega) only [zup_ne, zup_eq]); first | assumption | omega)) only [sX10_appendNumber_0, sX10_appendNumber_3, sX10_appendNumber_4, sX10_appendNumber_5, sX10_appendNumber_8, sX10_appendNumber_9, sX10_appendNumber_10, sX10_appendNumber_13, sX10_appendNumber_14, sX10_appendNumber_15, sX10_appendNumber_18, sX10_appendNumber_19, sX10_appendNumber_21, sX10_appendNumber_22, sX10_appendNumber_23, sX10_appendNumber_24, sX10_appendNumber_26, sX10_appendNumber_27, sX10_appendNumber_28, sX10_appendNumber_31, sX10_appendNumber_32, sX10_appendNumber_34, sX10_appendNumber_35, sX10_appendNumber_36, sX10_appendNumber_39, zkp_i, zkp_a, zkp_f, zkp_l, zkp_d, zkp_n, ycl_eq, zI_add, zI_sub, zI_mul, zI_neg, zI_inj, zI_lt, zI_le, zI_eq0, zI_lt0, zI_gt0, zI_le0, zI_ge0, yil_ok, yll_ok, yfl_ok, yis_ok, yls_ok, yfs_ok, y0_s, y1_s, ybo_ok, zset_w, zruns_if, zui_eq, zus_eq, zup_eq, Int.reduceAdd, Int.reduceSub, Int.reduceMul, Int.reduceNeg, Int.reduceLT, Int.reduceLE, Int.reduceEq, if_true, if_false, not_true_eq_false, not_false_eq_true, zw_0, zp_0_2, zw_1, zw_2, zp_2_5, zw_3, zp_3, zw_4, zp_4, zw_5, zp_5, zw_6, zp_6, zw_7, zp_7, zw_8, zw_9, zp_9_5, zw_10, zp_10, zw_11, zp_11, zw_12, zp_12, zw_13, zp_13, zw_14, zp_14, zw_15, zp_15_5, zw_16, zp_16, zw_17, zp_17, zw_18, zp_18, zw_19, zp_19, zw_20, zp_20, zw_65, zw_66, zp_66_5, zw_67, zp_67, zw_68, zp_68, zw_69, zp_69, zw_70, zp_70, zw_71, zp_71, zw_72, zw_73, zp_73_5, zw_74, zp_74, zw_75, zp_75, zw_76, zp_76, zw_77, zp_77, zw_78, zp_78, zw_79, zp_79_5, zw_80, zp_80, zw_81, zp_81, zw_82, zp_82, zw_83, zp_83, zw_84, zp_84, zw_129, zp_129_1, zw_130, zp_130, zw_131, zp_131_1, zw_132, zp_132, zw_133, zp_133_5, zp_133_6, zp_133_7, zw_134, zp_134, zw_135, zp_135, zw_136, zp_136, zw_137, zw_138, zp_138_1, zw_139, zp_139, zw_140, zp_140_1, zw_141, zp_141, zw_142, zp_142, zw_143, zw_144, zp_144_1, zw_145, zp_145, zw_146, zp_146_4, zw_147, zp_147, zw_148, zp_148, zw_149, zp_149, zw_150, zp_150, zw_151, zw_152, zp_152, zw_153, zp_153_1, zp_153_2, zp_153_3, zw_154, zp_154, zw_155, zp_155_1, zp_155_2, zp_155_3, zw_156, zp_156, zw_157, zp_157_1, zp_157_2, zp_157_3, zw_158, zp_158, zw_159, zp_159_1, zp_159_2, zp_159_3, zw_160, zp_160, zw_161, zp_161_1, zp_161_2, zp_161_3, zw_162, zp_162, zw_163, zp_163_1, zp_163_2, zp_163_3, zw_164, zp_164, yg0_0, yg0_1, yg0_2, yg0_3, yg0_4, yg1_0, yg1_1, yg1_2, yg1_3, yg2_0, yg2_1, yg2_2, yg3_0, yg3_1, yg4_0, yg5_0, yg5_1, yg5_2, yg5_3, yg5_4, yg5_5, yg6_0, yg6_1, yg6_2, yg6_3, yg6_4, yg6_5, yg7_0, yg7_1, yg7_2, yg7_3, yg7_4, yg7_5, yg7_6, yg7_7, yg8_0, yg8_1, yg8_2, yg8_3, yg9_0, yg9_1, yg9_2, yg9_3, yg9_4, yg9_5, yg10_0, yg10_1, yg11_0, yg11_1, yg11_2, yg11_3, yg11_4, yg11_5, yg11_6, yg11_7, yg11_8, yg11_9, yg11_10, yp0_0, yp0_1, yp0_2, yp0_3, yp0_4, yp1_0, yp1_1, yp1_2, yp1_3, yp2_0, yp2_1, yp2_2, yp3_0, yp3_1, yp4_0, yp5_0, yp5_1, yp5_2, yp5_3, yp5_4, yp5_5, yp6_0, yp6_1, yp6_2, yp6_3, yp6_4, yp6_5, yp7_0, yp7_1, yp7_2, yp7_3, yp7_4, yp7_5, yp7_6, yp7_7, yp8_0, yp8_1, yp8_2, yp8_3, yp9_0, yp9_1, yp9_2, yp9_3, yp9_4, yp9_5, yp10_0, yp10_1, yp11_0, yp11_1, yp11_2, yp11_3, yp11_4, yp11_5, yp11_6, yp11_7, yp11_8, yp11_9, yp11_10, a1, a2, a3, a4, zL_add, zL_sub, zL_mul, zI_i2l, zL_l2i, zL_lt, zL_le, zL_inj, lz_ge, lz_le, lz_gt, lz_lt, lz_eq, zL_div, zI_div, zdv_ok, zdl_ok, zI_mod, Int.reduceDiv, Int.ediv_one, Int.reduceMod]))
theorem tX12_writes {n v : Int} {T : Int → Int} (hn : 0 ≤ n ∧ n < 640) : zcall (d + 1) kX12_writes [.ref (b + 165), .int (zI v)] (z, zw b (zus σ 165 10 n) (zup α 169 T) lo φ) = some (none, (z, zw b (zus σ 165 10 (n + 1)) (zup α 169 (zui T n v)) lo φ)) := by
  rw [qX12_writes rfl]
  repeat' (first | rfl | (exfalso; first | omega | contradiction) | split | (rw [zruns_N 400]; simp (disch := first | assumption | omega | decide | ((simp (disch := omega) only [zup_ne, zup_eq]); first | assumption | omega)) only [sX12_writes_0, sX12_writes_1, sX12_writes_4, sX12_writes_5, sX12_writes_8, sX12_writes_9, sX12_writes_10, sX12_writes_11, sX12_writes_12, sX12_writes_15, sX12_writes_16, sX12_writes_17, sX12_writes_20, zkp_i, zkp_a, zkp_f, zkp_l, zkp_d, zkp_n, ycl_eq, zI_add, zI_sub, zI_mul, zI_neg, zI_inj, zI_lt, zI_le, zI_eq0, zI_lt0, zI_gt0, zI_le0, zI_ge0, yil_ok, yll_ok, yfl_ok, yis_ok, yls_ok, yfs_ok, y0_s, y1_s, ybo_ok, zset_w, zruns_if, zui_eq, zus_eq, zup_eq, Int.reduceAdd, Int.reduceSub, Int.reduceMul, Int.reduceNeg, Int.reduceLT, Int.reduceLE, Int.reduceEq, if_true, if_false, not_true_eq_false, not_false_eq_true, zw_165, zp_165_2, zp_165_9, zp_165_10, zp_165_11, zp_165_12, zp_165_13, zp_165_14, zw_166, zp_166, zw_167, zp_167, zw_168, zp_168, zw_169, zp_169, zw_170, zp_170, zw_171, zp_171, zw_172, zp_172, zw_173, zp_173, zw_174, zp_174, zw_175, zp_175, zw_176, zp_176, zw_177, zp_177, zw_178, zp_178, zw_179, zp_179, yg12_0, yg12_1, yg12_2, yg12_3, yg12_4, yg12_5, yg12_6, yg12_7, yg12_8, yg12_9, yg12_10, yg12_11, yg12_12, yg12_13, yg12_14, yg12_15, yg12_16, yg12_17, yg12_18, yg12_19, yg12_20, yp12_0, yp12_1, yp12_2, yp12_3, yp12_4, yp12_5, yp12_6, yp12_7, yp12_8, yp12_9, yp12_10, yp12_11, yp12_12, yp12_13, yp12_14, yp12_15, yp12_16, yp12_17, yp12_18, yp12_19, yp12_20, zus_zus, zup_up]))
end TEXT
