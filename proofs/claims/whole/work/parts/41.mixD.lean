/-! ===== the relation when one mixture, or only scratch, has changed; sums of drops; replace ===== -/
theorem zmul_b {x y p q : Int} (hx : 0 ≤ x ∧ x ≤ p) (hy : 0 ≤ y ∧ y ≤ q) : 0 ≤ x * y ∧ x * y ≤ p * q :=
  ⟨Int.mul_nonneg hx.1 hy.1, Int.le_trans (Int.mul_le_mul_of_nonneg_right hx.2 hy.1) (Int.mul_le_mul_of_nonneg_left hy.2 (by omega))⟩
theorem zsm_r {G : Int → Int} {m : Int} (hm : 0 ≤ m) : ∀ n : Nat, (∀ k : Int, 0 ≤ k → k < n → 0 ≤ G k ∧ G k ≤ m) → 0 ≤ zsm G n ∧ zsm G n ≤ m * n := by
  intro n h
  have := zsm_b (G := fun k => if 0 ≤ k ∧ k < n then G k else 0) hm (fun k => by
    show 0 ≤ (if 0 ≤ k ∧ k < n then G k else 0) ∧ (if 0 ≤ k ∧ k < n then G k else 0) ≤ m
    split
    · rename_i q; exact h k q.1 q.2
    · omega) n
  rw [zsm_c (G' := G) n (fun i hi => if_pos (by omega))] at this
  exact this
theorem zRD_all {S D : Int → Int} {c k A : Int} (h : zRD S c k D A) (hc : 0 ≤ c ∧ c ≤ 40) : zsm (fun n => S (450 + 40 * k + n)) c.toNat = A := by
  obtain ⟨r1, r2, r3, r4⟩ := h
  rw [r4, show 40 = c.toNat + (40 - c.toNat) by omega, zsm_z' _ (fun n a e => r3 n (by omega) (by omega))]
  exact zsm_c _ (fun n hn => (r1 n (by omega) (by omega)).symm)
theorem zRD_few {S D : Int → Int} {c k A : Int} (h : zRD S c k D A) (hc : 0 ≤ c ∧ c ≤ 40) : zsm (fun n => if 0 < S (450 + 40 * k + n) then 1 else 0) c.toNat = zsm (fun n => if 0 < D n then 1 else 0) 40 := by
  obtain ⟨r1, r2, r3, r4⟩ := h
  rw [show 40 = c.toNat + (40 - c.toNat) by omega, zsm_z' (G := fun n => if 0 < D n then (1 : Int) else 0) _ (fun n a e => by
    show (if 0 < D n then (1 : Int) else 0) = 0
    rw [r3 n (by omega) (by omega)]
    rfl)]
  exact zsm_c _ (fun n hn => by rw [r1 n (by omega) (by omega)])
theorem zRD_A {S D : Int → Int} {c k A : Int} (h : zRD S c k D A) : 0 ≤ A ∧ A ≤ 399960 := by
  obtain ⟨r1, r2, r3, r4⟩ := h
  have := zsm_r (G := D) (m := 9999) (by decide) 40 (fun n a e => r2 n a (by omega))
  rw [r4]
  omega
theorem zsm_0 {G : Int → Int} : ∀ n : Nat, (∀ k : Int, 0 ≤ k → k < n → 0 ≤ G k) → zsm G n = 0 → ∀ k : Int, 0 ≤ k → k < n → G k = 0 := by
  intro n
  induction n with
  | zero => intro _ _ k a c; omega
  | succ n ih =>
    intro h e k a c
    have e : zsm G n + G n = 0 := e
    have h0 : 0 ≤ zsm G n := by
      have : ∀ m : Nat, m ≤ n → 0 ≤ zsm G m := by
        intro m
        induction m with
        | zero => intro _; exact Int.le_refl 0
        | succ m ihm =>
          intro hm
          have h1 := ihm (by omega)
          have h2 := h m (by omega) (by omega)
          show 0 ≤ zsm G m + G m
          omega
      exact this n (Nat.le_refl _)
    have h1 := h n (by omega) (by omega)
    by_cases q : k = n
    · rw [q]; omega
    · exact ih (fun k a c => h k a (by omega)) (by omega) k a (by omega)
section MIXD
variable {d b : Nat} {z : Nat × Nat} {σ σ' : Nat → Nat → Int} {α lo α' : Nat → Int → Int} {φ : Nat → Int → UInt32}
theorem tX12_all {c k : Nat} {A : Int} {D : Int → Int} {ci : Int} (h : zRD (α 166) ci k D A) (hk : k < 22) (h0 : α 166 0 = ci) (hc : 0 ≤ ci ∧ ci ≤ 40) : zcall (d + 2) kX12_allOf [.ref (b + 165), .int (zI k)] (z, zw b σ α lo φ) = some (some (.int (zI A)), (z, zw b σ α lo φ)) := by
  rw [tX12_allOf (c := ci.toNat) (by omega) (by omega) (by omega), zRD_all h hc]
theorem tX12_few {c k : Nat} {A : Int} {D : Int → Int} {ci : Int} (h : zRD (α 166) ci k D A) (hk : k < 22) (h0 : α 166 0 = ci) (hc : 0 ≤ ci ∧ ci ≤ 40) (hz : ∀ j, zr (α 166 j)) : zcall (d + 2) kX12_noFewer [.ref (b + 165), .int (zI k)] (z, zw b σ α lo φ) = some (some (.int (zI (zsm (fun n => if 0 < D n then 1 else 0) 40))), (z, zw b σ α lo φ)) := by
  rw [tX12_noFewer (c := ci.toNat) (by omega) (by omega) (by omega) hz, zRD_few h hc]
theorem zRN_fam {c k : Nat} {A f : Int} {D N F P L : Int → Int} {ci : Int} (hn : zRN (α 166) ci N F P L) (h : zRD (α 166) ci k D A) (hc : 0 ≤ ci ∧ ci ≤ 40) : zsm (fun n => if α 166 (10 + 11 * n + 7) = f then α 166 (450 + 40 * k + n) else 0) ci.toNat = zsm (fun n => if F n = f then D n else 0) ci.toNat := by
  refine zsm_c _ (fun n hh => ?_)
  obtain ⟨_, _, _, _, ⟨e, _⟩, _⟩ := hn n (by omega) (by omega)
  rw [← e, ← h.1 n (by omega) (by omega)]
/-- only scratch has changed -/
theorem zQR_s (H : zQR σ α lo) (ha : ∀ j, zfb j ∨ j = 130 ∨ j = 168 → α' j = α j) (hs : ∀ k j, zft k j ∨ (k = 129 ∧ j = 1) ∨ (k = 165 ∧ j = 9) → σ' k j = σ k j) (hr : ∀ k j, zr (α' k j)) : zQR σ' α' lo := by
  refine zQR_t H (fun j hj => ha j (Or.inl hj)) (fun k j h => hs k j (Or.inl h)) ?_ hr
  rw [ha 130 (by omega), ha 168 (by omega), hs 129 1 (by omega), hs 165 9 (by omega)]
  exact zQR_tape H
/-- one mixture has new drops -/
theorem zQR_D {k : Nat} {A' : Int} {D' R : Int → Int} (H : zQR σ α lo) (hk : k < 22) (hD : zRD R (σ 2 5) k D' A') (hR : ∀ j, ¬ (450 + 40 * (k : Int) ≤ j ∧ j < 450 + 40 * (k : Int) + 40) → R j = α 166 j) (hz : ∀ j, zr (D' j)) (hzR : ∀ j, zr (R j)) : zQR (zus σ (8 + 13 + 2 * k) 1 A') (zup (zup α (8 + 13 + 2 * k + 1) D') 166 R) lo := by
  refine zQR_u H (zRH_mk1 ?_ ?_ ?_ (fun q hq => ?_) ?_ ?_ ?_ ?_) (fun j hj => ?_) (fun i j hi => zus_ne (by unfold zfs' at hi; omega)) rfl (zr_up (zr_up (zQR_rng H) hz) hzR) (zQR_lng H)
  · simp (disch := omega) only [zup_eq, zup_ne, zus_eq, zus_ne]
    exact zRC_u (zQ_cnt H) (hR _ (by omega)) (hR _ (by omega)) (hR _ (by omega))
  · simp (disch := omega) only [zup_eq, zup_ne, zus_eq, zus_ne]
    have := (zQ_cnt H).2.2.2.1
    exact zRN_u (zQ_note H) (fun n i a0 a1 a2 a3 => hR _ (by omega))
  · simp (disch := omega) only [zup_eq, zup_ne, zus_eq, zus_ne]
    have := (zQ_cnt H).2.2.2.1
    exact zRS_u (zQ_stock H) (fun n a0 a1 => hR _ (by omega))
  · by_cases e : q = k
    · subst e
      simp (disch := omega) only [zup_eq, zup_ne, zus_eq, zus_ne]
      exact hD
    · simp (disch := omega) only [zup_eq, zup_ne, zus_eq, zus_ne]
      have := (zQ_cnt H).2.2.2.1
      exact zRD_u (zQR_mix H hq) (fun n a0 a1 => hR _ (by omega))
  · simp (disch := omega) only [zup_eq, zup_ne, zus_eq, zus_ne]
    exact zRL_u (zQ_limit H) (fun f a0 a1 => hR _ (by omega))
  · simp (disch := omega) only [zup_eq, zup_ne, zus_eq, zus_ne]
    exact zRB_u (zQ_book H) (fun j a0 a1 => hR _ (by omega))
  · simp (disch := omega) only [zup_eq, zup_ne, zus_eq, zus_ne]
    exact zRO_u (zQ_order H) (fun j a0 a1 => hR _ (by omega))
  · simp (disch := omega) only [zup_eq, zup_ne, zus_eq, zus_ne]
    exact zQ_diff H
  · unfold zfa' at hj
    simp (disch := omega) only [zup_ne]
theorem oX_replace {x y v : Int} (H : zQR σ α lo) (hx : zr x) (hy : zr y) (hv : zr v) : zOK d b kX11_replace kX12_replace [.int (zI x), .int (zI y), .int (zI v)] σ α lo φ := by
  obtain ⟨c0, c1, c2, c3, c4, c5⟩ := zQ_cnt H
  by_cases h : (0 ≤ x ∧ x ≤ 15) ∧ (0 ≤ y ∧ y ≤ σ 2 5 - 1) ∧ 0 ≤ v ∧ v ≤ σ 2 5 - 1
  · obtain ⟨k, rfl⟩ := Int.eq_ofNat_of_zero_le h.1.1
    have k22 : k < 22 := by omega
    have hk := zmx_k k22
    obtain ⟨k1, k2, k3, k4⟩ := zmx_k k22
    have hm := zQR_mix H k22
    obtain ⟨r1, r2, r3, r4⟩ := zQR_mix H k22
    by_cases hq : y = v
    · have hall := fun (d : Nat) (z : Nat × Nat) => tX12_all (d := d) (b := b) (z := z) (σ := σ) (lo := lo) (φ := φ) (c := k) hm k22 c0 c3
      refine zOK_r (.int (zI (σ (8 + 13 + 2 * k) 1))) H (fun z => ?_) (fun z => ?_)
      · rw [qX11_replace rfl]
        repeat' (first | rfl | (exfalso; first | omega | contradiction) | split | (rw [zruns_N 400]; simp (disch := first | assumption | omega | decide | ((simp (disch := omega) only [zup_ne, zup_eq]); first | assumption | omega)) only [sX11_replace_0, sX11_replace_1, sX11_replace_4, sX11_replace_7, sX11_replace_8, sX11_replace_9, sX11_replace_12, sX11_replace_15, sX11_replace_16, sX11_replace_17, sX11_replace_20, sX11_replace_23, sX11_replace_24, sX11_replace_25, sX11_replace_26, sX11_replace_29, sX11_replace_32, sX11_replace_33, sX11_replace_34, sX11_replace_36, sX11_replace_37, sX11_replace_38, sX11_replace_41, sX11_replace_43, sX11_replace_46, sX11_replace_47, sX11_replace_49, sX11_replace_52, sX11_replace_53, sX11_replace_54, sX11_replace_56, sX11_replace_59, sX11_replace_60, sX11_replace_61, sX11_replace_62, sX11_replace_64, sX11_replace_66, sX11_replace_69, sX11_replace_72, sX11_replace_74, sX11_replace_75, sX11_replace_77, sX11_replace_78, sX11_replace_79, sX11_replace_82, sX11_replace_84, sX11_replace_85, sX11_replace_87, sX11_replace_90, sX11_replace_92, sX11_replace_95, zkp_i, zkp_a, zkp_f, zkp_l, zkp_d, zkp_n, ycl_eq, zI_add, zI_sub, zI_mul, zI_neg, zI_inj, zI_lt, zI_le, zI_eq0, zI_lt0, zI_gt0, zI_le0, zI_ge0, yil_ok, yll_ok, yfl_ok, yis_ok, yls_ok, yfs_ok, y0_s, y1_s, ybo_ok, zset_w, zruns_if, zui_eq, zus_eq, zup_eq, Int.reduceAdd, Int.reduceSub, Int.reduceMul, Int.reduceNeg, Int.reduceLT, Int.reduceLE, Int.reduceEq, if_true, if_false, not_true_eq_false, not_false_eq_true, zw_0, zp_0_2, zw_1, zw_2, zp_2_5, zw_3, zp_3, zw_4, zp_4, zw_5, zp_5, zw_6, zp_6, zw_7, zp_7, zw_8, zw_9, zp_9_5, zw_10, zp_10, zw_11, zp_11, zw_12, zp_12, zw_13, zp_13, zw_14, zp_14, zw_15, zp_15_5, zw_16, zp_16, zw_17, zp_17, zw_18, zp_18, zw_19, zp_19, zw_20, zp_20, zw_65, zw_66, zp_66_5, zw_67, zp_67, zw_68, zp_68, zw_69, zp_69, zw_70, zp_70, zw_71, zp_71, zw_72, zw_73, zp_73_5, zw_74, zp_74, zw_75, zp_75, zw_76, zp_76, zw_77, zp_77, zw_78, zp_78, zw_79, zp_79_5, zw_80, zp_80, zw_81, zp_81, zw_82, zp_82, zw_83, zp_83, zw_84, zp_84, zw_129, zp_129_1, zw_130, zp_130, zw_131, zp_131_1, zw_132, zp_132, zw_133, zp_133_5, zp_133_6, zp_133_7, zw_134, zp_134, zw_135, zp_135, zw_136, zp_136, zw_137, zw_138, zp_138_1, zw_139, zp_139, zw_140, zp_140_1, zw_141, zp_141, zw_142, zp_142, zw_143, zw_144, zp_144_1, zw_145, zp_145, zw_146, zp_146_4, zw_147, zp_147, zw_148, zp_148, zw_149, zp_149, zw_150, zp_150, zw_151, zw_152, zp_152, zw_153, zp_153_1, zp_153_2, zp_153_3, zw_154, zp_154, zw_155, zp_155_1, zp_155_2, zp_155_3, zw_156, zp_156, zw_157, zp_157_1, zp_157_2, zp_157_3, zw_158, zp_158, zw_159, zp_159_1, zp_159_2, zp_159_3, zw_160, zp_160, zw_161, zp_161_1, zp_161_2, zp_161_3, zw_162, zp_162, zw_163, zp_163_1, zp_163_2, zp_163_3, zw_164, zp_164, yg0_0, yg0_1, yg0_2, yg0_3, yg0_4, yg1_0, yg1_1, yg1_2, yg1_3, yg2_0, yg2_1, yg2_2, yg3_0, yg3_1, yg4_0, yg5_0, yg5_1, yg5_2, yg5_3, yg5_4, yg5_5, yg6_0, yg6_1, yg6_2, yg6_3, yg6_4, yg6_5, yg7_0, yg7_1, yg7_2, yg7_3, yg7_4, yg7_5, yg7_6, yg7_7, yg8_0, yg8_1, yg8_2, yg8_3, yg9_0, yg9_1, yg9_2, yg9_3, yg9_4, yg9_5, yg10_0, yg10_1, yg11_0, yg11_1, yg11_2, yg11_3, yg11_4, yg11_5, yg11_6, yg11_7, yg11_8, yg11_9, yg11_10, yp0_0, yp0_1, yp0_2, yp0_3, yp0_4, yp1_0, yp1_1, yp1_2, yp1_3, yp2_0, yp2_1, yp2_2, yp3_0, yp3_1, yp4_0, yp5_0, yp5_1, yp5_2, yp5_3, yp5_4, yp5_5, yp6_0, yp6_1, yp6_2, yp6_3, yp6_4, yp6_5, yp7_0, yp7_1, yp7_2, yp7_3, yp7_4, yp7_5, yp7_6, yp7_7, yp8_0, yp8_1, yp8_2, yp8_3, yp9_0, yp9_1, yp9_2, yp9_3, yp9_4, yp9_5, yp10_0, yp10_1, yp11_0, yp11_1, yp11_2, yp11_3, yp11_4, yp11_5, yp11_6, yp11_7, yp11_8, yp11_9, yp11_10, tX11_isBlend, tX11_isNote, yal_m (k := 8) (n := 22) (j := k) rfl k22 (by decide), zw_o3 k1 k3]))
      · rw [qX12_replace rfl]
        repeat' (first | rfl | (exfalso; first | omega | contradiction) | split | (rw [zruns_N 400]; simp (disch := first | assumption | omega | decide | ((simp (disch := omega) only [zup_ne, zup_eq]); first | assumption | omega)) only [sX12_replace_0, sX12_replace_1, sX12_replace_4, sX12_replace_7, sX12_replace_8, sX12_replace_9, sX12_replace_12, sX12_replace_15, sX12_replace_16, sX12_replace_17, sX12_replace_20, sX12_replace_23, sX12_replace_24, sX12_replace_25, sX12_replace_26, sX12_replace_27, sX12_replace_30, sX12_replace_31, sX12_replace_32, sX12_replace_33, sX12_replace_36, sX12_replace_37, sX12_replace_38, sX12_replace_39, sX12_replace_42, sX12_replace_43, sX12_replace_45, sX12_replace_47, sX12_replace_50, sX12_replace_53, sX12_replace_55, sX12_replace_56, sX12_replace_57, sX12_replace_60, sX12_replace_63, sX12_replace_65, sX12_replace_66, sX12_replace_67, sX12_replace_68, sX12_replace_69, sX12_replace_70, sX12_replace_71, sX12_replace_72, sX12_replace_73, sX12_replace_76, sX12_replace_79, sX12_replace_81, sX12_replace_82, sX12_replace_83, sX12_replace_84, sX12_replace_85, sX12_replace_86, sX12_replace_88, sX12_replace_89, sX12_replace_90, sX12_replace_91, sX12_replace_94, zkp_i, zkp_a, zkp_f, zkp_l, zkp_d, zkp_n, ycl_eq, zI_add, zI_sub, zI_mul, zI_neg, zI_inj, zI_lt, zI_le, zI_eq0, zI_lt0, zI_gt0, zI_le0, zI_ge0, yil_ok, yll_ok, yfl_ok, yis_ok, yls_ok, yfs_ok, y0_s, y1_s, ybo_ok, zset_w, zruns_if, zui_eq, zus_eq, zup_eq, Int.reduceAdd, Int.reduceSub, Int.reduceMul, Int.reduceNeg, Int.reduceLT, Int.reduceLE, Int.reduceEq, if_true, if_false, not_true_eq_false, not_false_eq_true, zw_165, zp_165_2, zp_165_9, zp_165_10, zp_165_11, zp_165_12, zp_165_13, zp_165_14, zw_166, zp_166, zw_167, zp_167, zw_168, zp_168, zw_169, zp_169, zw_170, zp_170, zw_171, zp_171, zw_172, zp_172, zw_173, zp_173, zw_174, zp_174, zw_175, zp_175, zw_176, zp_176, zw_177, zp_177, zw_178, zp_178, zw_179, zp_179, yg12_0, yg12_1, yg12_2, yg12_3, yg12_4, yg12_5, yg12_6, yg12_7, yg12_8, yg12_9, yg12_10, yg12_11, yg12_12, yg12_13, yg12_14, yg12_15, yg12_16, yg12_17, yg12_18, yg12_19, yg12_20, yp12_0, yp12_1, yp12_2, yp12_3, yp12_4, yp12_5, yp12_6, yp12_7, yp12_8, yp12_9, yp12_10, yp12_11, yp12_12, yp12_13, yp12_14, yp12_15, yp12_16, yp12_17, yp12_18, yp12_19, yp12_20, tX12_isBlend, tX12_isNote, c0, hall]))
    · have hy' := r2 y (by omega) (by omega)
      have hv' := r2 v (by omega) (by omega)
      have ey := r1 y (by omega) (by omega)
      have ev := r1 v (by omega) (by omega)
      generalize hDD : α (8 + 13 + 2 * k + 1) = D at *
      by_cases hf : D y + D v ≤ 9999
      · obtain ⟨A1, hA1⟩ : ∃ A1, A1 = σ (8 + 13 + 2 * k) 1 + (0 - D y) := ⟨_, rfl⟩
        obtain ⟨A2, hA2⟩ : ∃ A2, A2 = A1 + (D y + D v - D v) := ⟨_, rfl⟩
        obtain ⟨D1, hD1⟩ : ∃ D1, D1 = zui D y 0 := ⟨_, rfl⟩
        obtain ⟨D2, hD2⟩ : ∃ D2, D2 = zui D1 v (D y + D v) := ⟨_, rfl⟩
        obtain ⟨R, hR⟩ : ∃ R, R = zui (zui (α 166) (450 + 40 * k + y) 0) (450 + 40 * k + v) (D y + D v) := ⟨_, rfl⟩
        have hp1 : ∀ d z, zcall (d + 1) kX3_put [.ref (b + (8 + 13 + 2 * k)), .int (zI y), .int (zI 0)] (z, zw b σ α lo φ) = some (none, (z, zw b (zus σ (8 + 13 + 2 * k) 1 A1) (zup α (8 + 13 + 2 * k + 1) D1) lo φ)) := fun d z => by
          rw [tX3_put hk (by omega), hDD, hA1, hD1]
        have hp2 : ∀ d z, zcall (d + 1) kX3_put [.ref (b + (8 + 13 + 2 * k)), .int (zI v), .int (zI (D y + D v))] (z, zw b (zus σ (8 + 13 + 2 * k) 1 A1) (zup α (8 + 13 + 2 * k + 1) D1) lo φ) = some (none, (z, zw b (zus σ (8 + 13 + 2 * k) 1 A2) (zup α (8 + 13 + 2 * k + 1) D2) lo φ)) := fun d z => by
          rw [tX3_put hk (by omega), zus_zus, zup_up, zup_eq, zus_eq, hA2, hD2]
          rw [show D1 v = D v by rw [hD1, zui_ne (by omega)]]
        have hrd : zRD R (σ 2 5) k D2 A2 := by
          refine ⟨fun n h0 h1 => ?_, fun n h0 h1 => ?_, fun n h0 h1 => ?_, ?_⟩
          · rw [hR, hD2, hD1]
            by_cases e1 : n = v
            · rw [e1, zui_eq, zui_eq]
            · by_cases e2 : n = y
              · subst e2
                simp (disch := omega) only [zui_eq, zui_ne]
              · simp (disch := omega) only [zui_ne]
                exact r1 n h0 h1
          · rw [hD2, hD1]
            by_cases e1 : n = v
            · rw [e1, zui_eq]
              omega
            · rw [zui_ne e1]
              by_cases e2 : n = y
              · rw [e2, zui_eq]
                decide
              · rw [zui_ne e2]
                exact r2 n h0 h1
          · rw [hD2, hD1, zui_ne (by omega), zui_ne (by omega)]
            exact r3 n h0 h1
          · rw [hD2, zsm_ui (by omega) 40 (by omega), hD1, zsm_ui (by omega) 40 (by omega), hA2, hA1, zui_ne (fun e => hq e.symm), ← r4]
        have hzD : ∀ j, zr (D j) := by rw [← hDD]; exact zQR_rng H _
        have hrel : zQR (zus σ (8 + 13 + 2 * k) 1 A2) (zup (zup α (8 + 13 + 2 * k + 1) D2) 166 R) lo := by
          refine zQR_D H k22 hrd (fun j hj => ?_) ?_ ?_
          · rw [hR, zui_ne (by omega), zui_ne (by omega)]
          · rw [hD2, hD1]
            exact zr_ui (zr_ui hzD (by decide)) (by unfold zr; omega)
          · rw [hR]
            exact zr_ui (zr_ui (zQR_rng H 166) (by decide)) (by unfold zr; omega)
        have e166 : zup α (8 + 13 + 2 * k + 1) D2 166 = α 166 := zup_ne (by omega)
        have eR : ∀ X, zup (zup α (8 + 13 + 2 * k + 1) D2) 166 X 166 = X := fun X => zup_eq
        have hall := fun (d : Nat) (z : Nat × Nat) => tX12_all (d := d) (b := b) (z := z) (σ := zus σ (8 + 13 + 2 * k) 1 A2) (α := zup (zup α (8 + 13 + 2 * k + 1) D2) 166 R) (lo := lo) (φ := φ) (c := k) (ci := σ 2 5) (by rw [zup_eq]; exact hrd) k22 (by rw [zup_eq, hR, zui_ne (by omega), zui_ne (by omega), c0]) c3
        refine ⟨.int (zI A2), zus σ (8 + 13 + 2 * k) 1 A2, zup α (8 + 13 + 2 * k + 1) D2, lo, φ, zus σ (8 + 13 + 2 * k) 1 A2, zup (zup α (8 + 13 + 2 * k + 1) D2) 166 R, lo, φ, fun z => ?_, fun z => ?_, hrel⟩
        · rw [qX11_replace rfl]
          repeat' (first | rfl | (exfalso; first | omega | contradiction) | split | (rw [zruns_N 400]; simp (disch := first | assumption | omega | decide | ((simp (disch := omega) only [zup_ne, zup_eq]); first | assumption | omega)) only [sX11_replace_0, sX11_replace_1, sX11_replace_4, sX11_replace_7, sX11_replace_8, sX11_replace_9, sX11_replace_12, sX11_replace_15, sX11_replace_16, sX11_replace_17, sX11_replace_20, sX11_replace_23, sX11_replace_24, sX11_replace_25, sX11_replace_26, sX11_replace_29, sX11_replace_32, sX11_replace_33, sX11_replace_34, sX11_replace_36, sX11_replace_37, sX11_replace_38, sX11_replace_41, sX11_replace_43, sX11_replace_46, sX11_replace_47, sX11_replace_49, sX11_replace_52, sX11_replace_53, sX11_replace_54, sX11_replace_56, sX11_replace_59, sX11_replace_60, sX11_replace_61, sX11_replace_62, sX11_replace_64, sX11_replace_66, sX11_replace_69, sX11_replace_72, sX11_replace_74, sX11_replace_75, sX11_replace_77, sX11_replace_78, sX11_replace_79, sX11_replace_82, sX11_replace_84, sX11_replace_85, sX11_replace_87, sX11_replace_90, sX11_replace_92, sX11_replace_95, zkp_i, zkp_a, zkp_f, zkp_l, zkp_d, zkp_n, ycl_eq, zI_add, zI_sub, zI_mul, zI_neg, zI_inj, zI_lt, zI_le, zI_eq0, zI_lt0, zI_gt0, zI_le0, zI_ge0, yil_ok, yll_ok, yfl_ok, yis_ok, yls_ok, yfs_ok, y0_s, y1_s, ybo_ok, zset_w, zruns_if, zui_eq, zus_eq, zup_eq, Int.reduceAdd, Int.reduceSub, Int.reduceMul, Int.reduceNeg, Int.reduceLT, Int.reduceLE, Int.reduceEq, if_true, if_false, not_true_eq_false, not_false_eq_true, zw_0, zp_0_2, zw_1, zw_2, zp_2_5, zw_3, zp_3, zw_4, zp_4, zw_5, zp_5, zw_6, zp_6, zw_7, zp_7, zw_8, zw_9, zp_9_5, zw_10, zp_10, zw_11, zp_11, zw_12, zp_12, zw_13, zp_13, zw_14, zp_14, zw_15, zp_15_5, zw_16, zp_16, zw_17, zp_17, zw_18, zp_18, zw_19, zp_19, zw_20, zp_20, zw_65, zw_66, zp_66_5, zw_67, zp_67, zw_68, zp_68, zw_69, zp_69, zw_70, zp_70, zw_71, zp_71, zw_72, zw_73, zp_73_5, zw_74, zp_74, zw_75, zp_75, zw_76, zp_76, zw_77, zp_77, zw_78, zp_78, zw_79, zp_79_5, zw_80, zp_80, zw_81, zp_81, zw_82, zp_82, zw_83, zp_83, zw_84, zp_84, zw_129, zp_129_1, zw_130, zp_130, zw_131, zp_131_1, zw_132, zp_132, zw_133, zp_133_5, zp_133_6, zp_133_7, zw_134, zp_134, zw_135, zp_135, zw_136, zp_136, zw_137, zw_138, zp_138_1, zw_139, zp_139, zw_140, zp_140_1, zw_141, zp_141, zw_142, zp_142, zw_143, zw_144, zp_144_1, zw_145, zp_145, zw_146, zp_146_4, zw_147, zp_147, zw_148, zp_148, zw_149, zp_149, zw_150, zp_150, zw_151, zw_152, zp_152, zw_153, zp_153_1, zp_153_2, zp_153_3, zw_154, zp_154, zw_155, zp_155_1, zp_155_2, zp_155_3, zw_156, zp_156, zw_157, zp_157_1, zp_157_2, zp_157_3, zw_158, zp_158, zw_159, zp_159_1, zp_159_2, zp_159_3, zw_160, zp_160, zw_161, zp_161_1, zp_161_2, zp_161_3, zw_162, zp_162, zw_163, zp_163_1, zp_163_2, zp_163_3, zw_164, zp_164, yg0_0, yg0_1, yg0_2, yg0_3, yg0_4, yg1_0, yg1_1, yg1_2, yg1_3, yg2_0, yg2_1, yg2_2, yg3_0, yg3_1, yg4_0, yg5_0, yg5_1, yg5_2, yg5_3, yg5_4, yg5_5, yg6_0, yg6_1, yg6_2, yg6_3, yg6_4, yg6_5, yg7_0, yg7_1, yg7_2, yg7_3, yg7_4, yg7_5, yg7_6, yg7_7, yg8_0, yg8_1, yg8_2, yg8_3, yg9_0, yg9_1, yg9_2, yg9_3, yg9_4, yg9_5, yg10_0, yg10_1, yg11_0, yg11_1, yg11_2, yg11_3, yg11_4, yg11_5, yg11_6, yg11_7, yg11_8, yg11_9, yg11_10, yp0_0, yp0_1, yp0_2, yp0_3, yp0_4, yp1_0, yp1_1, yp1_2, yp1_3, yp2_0, yp2_1, yp2_2, yp3_0, yp3_1, yp4_0, yp5_0, yp5_1, yp5_2, yp5_3, yp5_4, yp5_5, yp6_0, yp6_1, yp6_2, yp6_3, yp6_4, yp6_5, yp7_0, yp7_1, yp7_2, yp7_3, yp7_4, yp7_5, yp7_6, yp7_7, yp8_0, yp8_1, yp8_2, yp8_3, yp9_0, yp9_1, yp9_2, yp9_3, yp9_4, yp9_5, yp10_0, yp10_1, yp11_0, yp11_1, yp11_2, yp11_3, yp11_4, yp11_5, yp11_6, yp11_7, yp11_8, yp11_9, yp11_10, tX11_isBlend, tX11_isNote, yal_m (k := 8) (n := 22) (j := k) rfl k22 (by decide), zw_o3 k1 k3, zw_int k2 k4, hDD, hp1, hp2]))
        · rw [qX12_replace rfl]
          repeat' (first | rfl | (exfalso; first | omega | contradiction) | split | (rw [zruns_N 400]; simp (disch := first | assumption | omega | decide | ((simp (disch := omega) only [zup_ne, zup_eq]); first | assumption | omega)) only [sX12_replace_0, sX12_replace_1, sX12_replace_4, sX12_replace_7, sX12_replace_8, sX12_replace_9, sX12_replace_12, sX12_replace_15, sX12_replace_16, sX12_replace_17, sX12_replace_20, sX12_replace_23, sX12_replace_24, sX12_replace_25, sX12_replace_26, sX12_replace_27, sX12_replace_30, sX12_replace_31, sX12_replace_32, sX12_replace_33, sX12_replace_36, sX12_replace_37, sX12_replace_38, sX12_replace_39, sX12_replace_42, sX12_replace_43, sX12_replace_45, sX12_replace_47, sX12_replace_50, sX12_replace_53, sX12_replace_55, sX12_replace_56, sX12_replace_57, sX12_replace_60, sX12_replace_63, sX12_replace_65, sX12_replace_66, sX12_replace_67, sX12_replace_68, sX12_replace_69, sX12_replace_70, sX12_replace_71, sX12_replace_72, sX12_replace_73, sX12_replace_76, sX12_replace_79, sX12_replace_81, sX12_replace_82, sX12_replace_83, sX12_replace_84, sX12_replace_85, sX12_replace_86, sX12_replace_88, sX12_replace_89, sX12_replace_90, sX12_replace_91, sX12_replace_94, zkp_i, zkp_a, zkp_f, zkp_l, zkp_d, zkp_n, ycl_eq, zI_add, zI_sub, zI_mul, zI_neg, zI_inj, zI_lt, zI_le, zI_eq0, zI_lt0, zI_gt0, zI_le0, zI_ge0, yil_ok, yll_ok, yfl_ok, yis_ok, yls_ok, yfs_ok, y0_s, y1_s, ybo_ok, zset_w, zruns_if, zui_eq, zus_eq, zup_eq, Int.reduceAdd, Int.reduceSub, Int.reduceMul, Int.reduceNeg, Int.reduceLT, Int.reduceLE, Int.reduceEq, if_true, if_false, not_true_eq_false, not_false_eq_true, zw_165, zp_165_2, zp_165_9, zp_165_10, zp_165_11, zp_165_12, zp_165_13, zp_165_14, zw_166, zp_166, zw_167, zp_167, zw_168, zp_168, zw_169, zp_169, zw_170, zp_170, zw_171, zp_171, zw_172, zp_172, zw_173, zp_173, zw_174, zp_174, zw_175, zp_175, zw_176, zp_176, zw_177, zp_177, zw_178, zp_178, zw_179, zp_179, yg12_0, yg12_1, yg12_2, yg12_3, yg12_4, yg12_5, yg12_6, yg12_7, yg12_8, yg12_9, yg12_10, yg12_11, yg12_12, yg12_13, yg12_14, yg12_15, yg12_16, yg12_17, yg12_18, yg12_19, yg12_20, yp12_0, yp12_1, yp12_2, yp12_3, yp12_4, yp12_5, yp12_6, yp12_7, yp12_8, yp12_9, yp12_10, yp12_11, yp12_12, yp12_13, yp12_14, yp12_15, yp12_16, yp12_17, yp12_18, yp12_19, yp12_20, tX12_isBlend, tX12_isNote, tX12_dropsOf, c0, e166, zup_up, ← ey, ← ev, ← hR, hall]))
      · refine zOK_r (.int (zI (-4))) H (fun z => ?_) (fun z => ?_)
        · rw [qX11_replace rfl]
          repeat' (first | rfl | (exfalso; first | omega | contradiction) | split | (rw [zruns_N 400]; simp (disch := first | assumption | omega | decide | ((simp (disch := omega) only [zup_ne, zup_eq]); first | assumption | omega)) only [sX11_replace_0, sX11_replace_1, sX11_replace_4, sX11_replace_7, sX11_replace_8, sX11_replace_9, sX11_replace_12, sX11_replace_15, sX11_replace_16, sX11_replace_17, sX11_replace_20, sX11_replace_23, sX11_replace_24, sX11_replace_25, sX11_replace_26, sX11_replace_29, sX11_replace_32, sX11_replace_33, sX11_replace_34, sX11_replace_36, sX11_replace_37, sX11_replace_38, sX11_replace_41, sX11_replace_43, sX11_replace_46, sX11_replace_47, sX11_replace_49, sX11_replace_52, sX11_replace_53, sX11_replace_54, sX11_replace_56, sX11_replace_59, sX11_replace_60, sX11_replace_61, sX11_replace_62, sX11_replace_64, sX11_replace_66, sX11_replace_69, sX11_replace_72, sX11_replace_74, sX11_replace_75, sX11_replace_77, sX11_replace_78, sX11_replace_79, sX11_replace_82, sX11_replace_84, sX11_replace_85, sX11_replace_87, sX11_replace_90, sX11_replace_92, sX11_replace_95, zkp_i, zkp_a, zkp_f, zkp_l, zkp_d, zkp_n, ycl_eq, zI_add, zI_sub, zI_mul, zI_neg, zI_inj, zI_lt, zI_le, zI_eq0, zI_lt0, zI_gt0, zI_le0, zI_ge0, yil_ok, yll_ok, yfl_ok, yis_ok, yls_ok, yfs_ok, y0_s, y1_s, ybo_ok, zset_w, zruns_if, zui_eq, zus_eq, zup_eq, Int.reduceAdd, Int.reduceSub, Int.reduceMul, Int.reduceNeg, Int.reduceLT, Int.reduceLE, Int.reduceEq, if_true, if_false, not_true_eq_false, not_false_eq_true, zw_0, zp_0_2, zw_1, zw_2, zp_2_5, zw_3, zp_3, zw_4, zp_4, zw_5, zp_5, zw_6, zp_6, zw_7, zp_7, zw_8, zw_9, zp_9_5, zw_10, zp_10, zw_11, zp_11, zw_12, zp_12, zw_13, zp_13, zw_14, zp_14, zw_15, zp_15_5, zw_16, zp_16, zw_17, zp_17, zw_18, zp_18, zw_19, zp_19, zw_20, zp_20, zw_65, zw_66, zp_66_5, zw_67, zp_67, zw_68, zp_68, zw_69, zp_69, zw_70, zp_70, zw_71, zp_71, zw_72, zw_73, zp_73_5, zw_74, zp_74, zw_75, zp_75, zw_76, zp_76, zw_77, zp_77, zw_78, zp_78, zw_79, zp_79_5, zw_80, zp_80, zw_81, zp_81, zw_82, zp_82, zw_83, zp_83, zw_84, zp_84, zw_129, zp_129_1, zw_130, zp_130, zw_131, zp_131_1, zw_132, zp_132, zw_133, zp_133_5, zp_133_6, zp_133_7, zw_134, zp_134, zw_135, zp_135, zw_136, zp_136, zw_137, zw_138, zp_138_1, zw_139, zp_139, zw_140, zp_140_1, zw_141, zp_141, zw_142, zp_142, zw_143, zw_144, zp_144_1, zw_145, zp_145, zw_146, zp_146_4, zw_147, zp_147, zw_148, zp_148, zw_149, zp_149, zw_150, zp_150, zw_151, zw_152, zp_152, zw_153, zp_153_1, zp_153_2, zp_153_3, zw_154, zp_154, zw_155, zp_155_1, zp_155_2, zp_155_3, zw_156, zp_156, zw_157, zp_157_1, zp_157_2, zp_157_3, zw_158, zp_158, zw_159, zp_159_1, zp_159_2, zp_159_3, zw_160, zp_160, zw_161, zp_161_1, zp_161_2, zp_161_3, zw_162, zp_162, zw_163, zp_163_1, zp_163_2, zp_163_3, zw_164, zp_164, yg0_0, yg0_1, yg0_2, yg0_3, yg0_4, yg1_0, yg1_1, yg1_2, yg1_3, yg2_0, yg2_1, yg2_2, yg3_0, yg3_1, yg4_0, yg5_0, yg5_1, yg5_2, yg5_3, yg5_4, yg5_5, yg6_0, yg6_1, yg6_2, yg6_3, yg6_4, yg6_5, yg7_0, yg7_1, yg7_2, yg7_3, yg7_4, yg7_5, yg7_6, yg7_7, yg8_0, yg8_1, yg8_2, yg8_3, yg9_0, yg9_1, yg9_2, yg9_3, yg9_4, yg9_5, yg10_0, yg10_1, yg11_0, yg11_1, yg11_2, yg11_3, yg11_4, yg11_5, yg11_6, yg11_7, yg11_8, yg11_9, yg11_10, yp0_0, yp0_1, yp0_2, yp0_3, yp0_4, yp1_0, yp1_1, yp1_2, yp1_3, yp2_0, yp2_1, yp2_2, yp3_0, yp3_1, yp4_0, yp5_0, yp5_1, yp5_2, yp5_3, yp5_4, yp5_5, yp6_0, yp6_1, yp6_2, yp6_3, yp6_4, yp6_5, yp7_0, yp7_1, yp7_2, yp7_3, yp7_4, yp7_5, yp7_6, yp7_7, yp8_0, yp8_1, yp8_2, yp8_3, yp9_0, yp9_1, yp9_2, yp9_3, yp9_4, yp9_5, yp10_0, yp10_1, yp11_0, yp11_1, yp11_2, yp11_3, yp11_4, yp11_5, yp11_6, yp11_7, yp11_8, yp11_9, yp11_10, tX11_isBlend, tX11_isNote, yal_m (k := 8) (n := 22) (j := k) rfl k22 (by decide), zw_o3 k1 k3, zw_int k2 k4, hDD]))
        · rw [qX12_replace rfl]
          repeat' (first | rfl | (exfalso; first | omega | contradiction) | split | (rw [zruns_N 400]; simp (disch := first | assumption | omega | decide | ((simp (disch := omega) only [zup_ne, zup_eq]); first | assumption | omega)) only [sX12_replace_0, sX12_replace_1, sX12_replace_4, sX12_replace_7, sX12_replace_8, sX12_replace_9, sX12_replace_12, sX12_replace_15, sX12_replace_16, sX12_replace_17, sX12_replace_20, sX12_replace_23, sX12_replace_24, sX12_replace_25, sX12_replace_26, sX12_replace_27, sX12_replace_30, sX12_replace_31, sX12_replace_32, sX12_replace_33, sX12_replace_36, sX12_replace_37, sX12_replace_38, sX12_replace_39, sX12_replace_42, sX12_replace_43, sX12_replace_45, sX12_replace_47, sX12_replace_50, sX12_replace_53, sX12_replace_55, sX12_replace_56, sX12_replace_57, sX12_replace_60, sX12_replace_63, sX12_replace_65, sX12_replace_66, sX12_replace_67, sX12_replace_68, sX12_replace_69, sX12_replace_70, sX12_replace_71, sX12_replace_72, sX12_replace_73, sX12_replace_76, sX12_replace_79, sX12_replace_81, sX12_replace_82, sX12_replace_83, sX12_replace_84, sX12_replace_85, sX12_replace_86, sX12_replace_88, sX12_replace_89, sX12_replace_90, sX12_replace_91, sX12_replace_94, zkp_i, zkp_a, zkp_f, zkp_l, zkp_d, zkp_n, ycl_eq, zI_add, zI_sub, zI_mul, zI_neg, zI_inj, zI_lt, zI_le, zI_eq0, zI_lt0, zI_gt0, zI_le0, zI_ge0, yil_ok, yll_ok, yfl_ok, yis_ok, yls_ok, yfs_ok, y0_s, y1_s, ybo_ok, zset_w, zruns_if, zui_eq, zus_eq, zup_eq, Int.reduceAdd, Int.reduceSub, Int.reduceMul, Int.reduceNeg, Int.reduceLT, Int.reduceLE, Int.reduceEq, if_true, if_false, not_true_eq_false, not_false_eq_true, zw_165, zp_165_2, zp_165_9, zp_165_10, zp_165_11, zp_165_12, zp_165_13, zp_165_14, zw_166, zp_166, zw_167, zp_167, zw_168, zp_168, zw_169, zp_169, zw_170, zp_170, zw_171, zp_171, zw_172, zp_172, zw_173, zp_173, zw_174, zp_174, zw_175, zp_175, zw_176, zp_176, zw_177, zp_177, zw_178, zp_178, zw_179, zp_179, yg12_0, yg12_1, yg12_2, yg12_3, yg12_4, yg12_5, yg12_6, yg12_7, yg12_8, yg12_9, yg12_10, yg12_11, yg12_12, yg12_13, yg12_14, yg12_15, yg12_16, yg12_17, yg12_18, yg12_19, yg12_20, yp12_0, yp12_1, yp12_2, yp12_3, yp12_4, yp12_5, yp12_6, yp12_7, yp12_8, yp12_9, yp12_10, yp12_11, yp12_12, yp12_13, yp12_14, yp12_15, yp12_16, yp12_17, yp12_18, yp12_19, yp12_20, tX12_isBlend, tX12_isNote, tX12_dropsOf, c0, ← ey, ← ev]))
  · refine zOK_r (.int (zI (-1))) H (fun z => ?_) (fun z => ?_)
    · rw [qX11_replace rfl]
      repeat' (first | rfl | (exfalso; first | omega | contradiction) | split | (rw [zruns_N 400]; simp (disch := first | assumption | omega | decide | ((simp (disch := omega) only [zup_ne, zup_eq]); first | assumption | omega)) only [sX11_replace_0, sX11_replace_1, sX11_replace_4, sX11_replace_7, sX11_replace_8, sX11_replace_9, sX11_replace_12, sX11_replace_15, sX11_replace_16, sX11_replace_17, sX11_replace_20, sX11_replace_23, sX11_replace_24, zkp_i, zkp_a, zkp_f, zkp_l, zkp_d, zkp_n, ycl_eq, zI_add, zI_sub, zI_mul, zI_neg, zI_inj, zI_lt, zI_le, zI_eq0, zI_lt0, zI_gt0, zI_le0, zI_ge0, yil_ok, yll_ok, yfl_ok, yis_ok, yls_ok, yfs_ok, y0_s, y1_s, ybo_ok, zset_w, zruns_if, zui_eq, zus_eq, zup_eq, Int.reduceAdd, Int.reduceSub, Int.reduceMul, Int.reduceNeg, Int.reduceLT, Int.reduceLE, Int.reduceEq, if_true, if_false, not_true_eq_false, not_false_eq_true, zw_0, zp_0_2, zw_1, zw_2, zp_2_5, zw_3, zp_3, zw_4, zp_4, zw_5, zp_5, zw_6, zp_6, zw_7, zp_7, zw_8, zw_9, zp_9_5, zw_10, zp_10, zw_11, zp_11, zw_12, zp_12, zw_13, zp_13, zw_14, zp_14, zw_15, zp_15_5, zw_16, zp_16, zw_17, zp_17, zw_18, zp_18, zw_19, zp_19, zw_20, zp_20, zw_65, zw_66, zp_66_5, zw_67, zp_67, zw_68, zp_68, zw_69, zp_69, zw_70, zp_70, zw_71, zp_71, zw_72, zw_73, zp_73_5, zw_74, zp_74, zw_75, zp_75, zw_76, zp_76, zw_77, zp_77, zw_78, zp_78, zw_79, zp_79_5, zw_80, zp_80, zw_81, zp_81, zw_82, zp_82, zw_83, zp_83, zw_84, zp_84, zw_129, zp_129_1, zw_130, zp_130, zw_131, zp_131_1, zw_132, zp_132, zw_133, zp_133_5, zp_133_6, zp_133_7, zw_134, zp_134, zw_135, zp_135, zw_136, zp_136, zw_137, zw_138, zp_138_1, zw_139, zp_139, zw_140, zp_140_1, zw_141, zp_141, zw_142, zp_142, zw_143, zw_144, zp_144_1, zw_145, zp_145, zw_146, zp_146_4, zw_147, zp_147, zw_148, zp_148, zw_149, zp_149, zw_150, zp_150, zw_151, zw_152, zp_152, zw_153, zp_153_1, zp_153_2, zp_153_3, zw_154, zp_154, zw_155, zp_155_1, zp_155_2, zp_155_3, zw_156, zp_156, zw_157, zp_157_1, zp_157_2, zp_157_3, zw_158, zp_158, zw_159, zp_159_1, zp_159_2, zp_159_3, zw_160, zp_160, zw_161, zp_161_1, zp_161_2, zp_161_3, zw_162, zp_162, zw_163, zp_163_1, zp_163_2, zp_163_3, zw_164, zp_164, yg0_0, yg0_1, yg0_2, yg0_3, yg0_4, yg1_0, yg1_1, yg1_2, yg1_3, yg2_0, yg2_1, yg2_2, yg3_0, yg3_1, yg4_0, yg5_0, yg5_1, yg5_2, yg5_3, yg5_4, yg5_5, yg6_0, yg6_1, yg6_2, yg6_3, yg6_4, yg6_5, yg7_0, yg7_1, yg7_2, yg7_3, yg7_4, yg7_5, yg7_6, yg7_7, yg8_0, yg8_1, yg8_2, yg8_3, yg9_0, yg9_1, yg9_2, yg9_3, yg9_4, yg9_5, yg10_0, yg10_1, yg11_0, yg11_1, yg11_2, yg11_3, yg11_4, yg11_5, yg11_6, yg11_7, yg11_8, yg11_9, yg11_10, yp0_0, yp0_1, yp0_2, yp0_3, yp0_4, yp1_0, yp1_1, yp1_2, yp1_3, yp2_0, yp2_1, yp2_2, yp3_0, yp3_1, yp4_0, yp5_0, yp5_1, yp5_2, yp5_3, yp5_4, yp5_5, yp6_0, yp6_1, yp6_2, yp6_3, yp6_4, yp6_5, yp7_0, yp7_1, yp7_2, yp7_3, yp7_4, yp7_5, yp7_6, yp7_7, yp8_0, yp8_1, yp8_2, yp8_3, yp9_0, yp9_1, yp9_2, yp9_3, yp9_4, yp9_5, yp10_0, yp10_1, yp11_0, yp11_1, yp11_2, yp11_3, yp11_4, yp11_5, yp11_6, yp11_7, yp11_8, yp11_9, yp11_10, tX11_isBlend, tX11_isNote]))
    · rw [qX12_replace rfl]
      repeat' (first | rfl | (exfalso; first | omega | contradiction) | split | (rw [zruns_N 400]; simp (disch := first | assumption | omega | decide | ((simp (disch := omega) only [zup_ne, zup_eq]); first | assumption | omega)) only [sX12_replace_0, sX12_replace_1, sX12_replace_4, sX12_replace_7, sX12_replace_8, sX12_replace_9, sX12_replace_12, sX12_replace_15, sX12_replace_16, sX12_replace_17, sX12_replace_20, sX12_replace_23, sX12_replace_24, sX12_replace_25, sX12_replace_26, sX12_replace_27, sX12_replace_30, sX12_replace_31, sX12_replace_32, sX12_replace_33, sX12_replace_36, sX12_replace_37, sX12_replace_38, sX12_replace_39, sX12_replace_42, sX12_replace_43, sX12_replace_45, sX12_replace_47, sX12_replace_50, sX12_replace_53, sX12_replace_55, sX12_replace_56, sX12_replace_57, sX12_replace_60, sX12_replace_63, sX12_replace_65, sX12_replace_66, sX12_replace_67, sX12_replace_68, sX12_replace_69, sX12_replace_70, sX12_replace_71, sX12_replace_72, sX12_replace_73, sX12_replace_76, sX12_replace_79, sX12_replace_81, sX12_replace_82, sX12_replace_83, sX12_replace_84, sX12_replace_85, sX12_replace_86, sX12_replace_88, sX12_replace_89, sX12_replace_90, sX12_replace_91, sX12_replace_94, zkp_i, zkp_a, zkp_f, zkp_l, zkp_d, zkp_n, ycl_eq, zI_add, zI_sub, zI_mul, zI_neg, zI_inj, zI_lt, zI_le, zI_eq0, zI_lt0, zI_gt0, zI_le0, zI_ge0, yil_ok, yll_ok, yfl_ok, yis_ok, yls_ok, yfs_ok, y0_s, y1_s, ybo_ok, zset_w, zruns_if, zui_eq, zus_eq, zup_eq, Int.reduceAdd, Int.reduceSub, Int.reduceMul, Int.reduceNeg, Int.reduceLT, Int.reduceLE, Int.reduceEq, if_true, if_false, not_true_eq_false, not_false_eq_true, zw_165, zp_165_2, zp_165_9, zp_165_10, zp_165_11, zp_165_12, zp_165_13, zp_165_14, zw_166, zp_166, zw_167, zp_167, zw_168, zp_168, zw_169, zp_169, zw_170, zp_170, zw_171, zp_171, zw_172, zp_172, zw_173, zp_173, zw_174, zp_174, zw_175, zp_175, zw_176, zp_176, zw_177, zp_177, zw_178, zp_178, zw_179, zp_179, yg12_0, yg12_1, yg12_2, yg12_3, yg12_4, yg12_5, yg12_6, yg12_7, yg12_8, yg12_9, yg12_10, yg12_11, yg12_12, yg12_13, yg12_14, yg12_15, yg12_16, yg12_17, yg12_18, yg12_19, yg12_20, yp12_0, yp12_1, yp12_2, yp12_3, yp12_4, yp12_5, yp12_6, yp12_7, yp12_8, yp12_9, yp12_10, yp12_11, yp12_12, yp12_13, yp12_14, yp12_15, yp12_16, yp12_17, yp12_18, yp12_19, yp12_20, tX12_isBlend, tX12_isNote, c0]))
end MIXD
