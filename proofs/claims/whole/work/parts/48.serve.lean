/-! ===== the public calls: serve ===== -/
section SERVE
variable {d b : Nat} {z : Nat × Nat} {σ : Nat → Nat → Int} {α lo : Nat → Int → Int} {φ : Nat → Int → UInt32}
theorem zQR_done {o : Int} (H : zQR σ α lo) (ho : 0 ≤ o ∧ o < σ 15 5) : zQR σ (zup (zup α 19 (zui (α 19) o 1)) 166 (zui (α 166) (1430 + 4 * o + 3) 1)) lo := by
  obtain ⟨c0, c1, c2, c3, c4, c5⟩ := zQ_cnt H
  have hl := zQ_order H
  have hR : ∀ j, j ≠ 1430 + 4 * o + 3 → zui (α 166) (1430 + 4 * o + 3) 1 j = α 166 j := fun j hj => zui_ne hj
  refine zQR_u H (zRH_mk1 ?_ ?_ ?_ (fun q hq => ?_) ?_ ?_ ?_ ?_) (fun j hj => ?_) (fun _ _ _ => rfl) rfl (zr_up (zr_up (zQR_rng H) (zr_ui (zQR_rng H 19) (by decide))) (zr_ui (zQR_rng H 166) (by decide))) (zQR_lng H)
  · simp (disch := omega) only [zup_eq, zup_ne]
    exact zRC_u (zQ_cnt H) (hR _ (by omega)) (hR _ (by omega)) (hR _ (by omega))
  · simp (disch := omega) only [zup_eq, zup_ne]
    exact zRN_u (zQ_note H) (fun n i a0 a1 a2 a3 => hR _ (by omega))
  · simp (disch := omega) only [zup_eq, zup_ne]
    exact zRS_u (zQ_stock H) (fun n a0 a1 => hR _ (by omega))
  · simp (disch := omega) only [zup_eq, zup_ne]
    exact zRD_u (zQR_mix H hq) (fun n a0 a1 => hR _ (by omega))
  · simp (disch := omega) only [zup_eq, zup_ne]
    exact zRL_u (zQ_limit H) (fun f a0 a1 => hR _ (by omega))
  · simp (disch := omega) only [zup_eq, zup_ne]
    exact zRB_u (zQ_book H) (fun j a0 a1 => hR _ (by omega))
  · simp (disch := omega) only [zup_eq, zup_ne]
    intro i i0 i1
    obtain ⟨⟨a1, a2, a3⟩, ⟨b1, b2, b3⟩, ⟨e1, e2, e3⟩, f1, f2, f3⟩ := hl i i0 i1
    by_cases e : i = o
    · subst e
      simp (disch := omega) only [zui_eq, zui_ne]
      exact ⟨⟨a1, a2, a3⟩, ⟨b1, b2, b3⟩, ⟨e1, e2, e3⟩, trivial, by decide, by decide⟩
    · simp (disch := omega) only [zui_ne]
      exact ⟨⟨a1, a2, a3⟩, ⟨b1, b2, b3⟩, ⟨e1, e2, e3⟩, f1, f2, f3⟩
  · exact zQ_diff H
  · unfold zfa' at hj
    simp (disch := omega) only [zup_ne]
noncomputable def zcb (σ : Nat → Nat → Int) (α : Nat → Int → Int) (k : Nat) (n : Int) (c : Nat) : Bool := @decide (zcan (α 4) (α 10) (α (8 + 13 + 2 * k + 1)) (α 11) (σ (8 + 13 + 2 * k) 1) n c) (Classical.propDecidable _)
theorem zcb_iff {k : Nat} {n : Int} {c : Nat} : zcb σ α k n c = true ↔ zcan (α 4) (α 10) (α (8 + 13 + 2 * k + 1)) (α 11) (σ (8 + 13 + 2 * k) 1) n c := by
  unfold zcb
  simp only [decide_eq_true_eq]
/-- order o is served, if it can be: how many were, and the world -/
noncomputable def zsv (c o : Nat) (X : Int × (Nat → Nat → Int) × (Nat → Int → Int)) : Int × (Nat → Nat → Int) × (Nat → Int → Int) :=
  if zcb X.2.1 X.2.2 (X.2.2 16 o).toNat (X.2.2 17 o) c = true then
    (X.1 + 1, zus X.2.1 9 5 (zwm (X.2.1 9 5) + 1), zup (zup (zmA X.2.2 (X.2.2 (8 + 13 + 2 * (X.2.2 16 o).toNat + 1)) (X.2.2 16 o).toNat (X.2.2 17 o) (X.2.1 (8 + 13 + 2 * (X.2.2 16 o).toNat) 1) (X.2.1 9 5) c) 19 (zui (X.2.2 19) o 1)) 166 (zui (zmk (X.2.2 166) (X.2.2 16 o).toNat (X.2.2 17 o) (X.2.1 (8 + 13 + 2 * (X.2.2 16 o).toNat) 1) (X.2.1 9 5) c) (1430 + 4 * o + 3) 1))
  else X
noncomputable def zsq (c : Nat) (L : Nat → Nat) (X : Int × (Nat → Nat → Int) × (Nat → Int → Int)) : Nat → Int × (Nat → Nat → Int) × (Nat → Int → Int)
  | 0 => X
  | j + 1 => zsv c (L j) (zsq c L X j)
def zfr (σ σ' : Nat → Nat → Int) (α α' : Nat → Int → Int) : Prop := (∀ i, i ≠ 11 ∧ i ≠ 12 ∧ i ≠ 13 ∧ i ≠ 14 ∧ i ≠ 19 ∧ i ≠ 166 → α' i = α i) ∧ ∀ k i, k ≠ 9 ∨ i ≠ 5 → σ' k i = σ k i
theorem zsv_ok {c o : Nat} {X : Int × (Nat → Nat → Int) × (Nat → Int → Int)} (H : zQR X.2.1 X.2.2 lo) (hcc : X.2.1 2 5 = c) (ho : (o : Int) < X.2.1 15 5) : zQR (zsv c o X).2.1 (zsv c o X).2.2 lo ∧ zfr X.2.1 (zsv c o X).2.1 X.2.2 (zsv c o X).2.2 ∧ (∀ p : Nat, p ≠ o → (zsv c o X).2.2 19 p = X.2.2 19 p) ∧ (X.1 ≤ (zsv c o X).1 ∧ (zsv c o X).1 ≤ X.1 + 1) := by
  obtain ⟨⟨a1, a2, a3⟩, ⟨b1, b2, b3⟩, _⟩ := zQ_order H o (by omega) ho
  unfold zsv
  by_cases h : zcb X.2.1 X.2.2 (X.2.2 16 o).toNat (X.2.2 17 o) c = true
  · rw [if_pos h]
    have hm := zQR_make H (k := (X.2.2 16 o).toNat) (by omega) ⟨b2, b3⟩ hcc (zcb_iff.1 h)
    have hd := zQR_done hm (o := o) ⟨by omega, by rw [zus_ne (by decide)]; exact ho⟩
    rw [zmA_ne (j := 19) (by decide)] at hd
    refine ⟨?_, ⟨fun i hi => ?_, fun k i hi => zus_ne hi⟩, fun p hp => ?_, by show X.1 ≤ X.1 + 1 ∧ X.1 + 1 ≤ X.1 + 1; omega⟩
    · have e : zmA X.2.2 (X.2.2 (8 + 13 + 2 * (X.2.2 16 o).toNat + 1)) (X.2.2 16 o).toNat (X.2.2 17 o) (X.2.1 (8 + 13 + 2 * (X.2.2 16 o).toNat) 1) (X.2.1 9 5) c 166 = zmk (X.2.2 166) (X.2.2 16 o).toNat (X.2.2 17 o) (X.2.1 (8 + 13 + 2 * (X.2.2 16 o).toNat) 1) (X.2.1 9 5) c := by
        unfold zmA
        rw [zup_eq]
      rw [e] at hd
      exact hd
    · exact (zup_ne hi.2.2.2.2.2).trans ((zup_ne hi.2.2.2.2.1).trans (zmA_ne ⟨hi.1, hi.2.1, hi.2.2.1, hi.2.2.2.1, hi.2.2.2.2.2⟩))
    · dsimp only
      rw [zup_ne (show 19 ≠ 166 by decide), zup_eq, zui_ne (show (p : Int) ≠ o by omega)]
  · rw [if_neg h]
    exact ⟨H, ⟨fun _ _ => rfl, fun _ _ _ => rfl⟩, fun _ _ => rfl, Int.le_refl _, by omega⟩
theorem zsq_ok {c : Nat} {L : Nat → Nat} {v : Int} (H : zQR σ α lo) (hcc : σ 2 5 = c) : ∀ N : Nat, (∀ j, j < N → ((L j : Nat) : Int) < σ 15 5) → zQR (zsq c L (v, σ, α) N).2.1 (zsq c L (v, σ, α) N).2.2 lo ∧ zfr σ (zsq c L (v, σ, α) N).2.1 α (zsq c L (v, σ, α) N).2.2 ∧ (∀ p : Nat, (∀ j, j < N → L j ≠ p) → (zsq c L (v, σ, α) N).2.2 19 p = α 19 p) ∧ (v ≤ (zsq c L (v, σ, α) N).1 ∧ (zsq c L (v, σ, α) N).1 ≤ v + N) := by
  intro N
  induction N with
  | zero => intro _; exact ⟨H, ⟨fun _ _ => rfl, fun _ _ _ => rfl⟩, fun _ _ => rfl, Int.le_refl _, by show v ≤ v + ((0 : Nat) : Int); omega⟩
  | succ N ih =>
    intro hL
    obtain ⟨i1, i2, i3, i4⟩ := ih (fun j hj => hL j (by omega))
    have e15 := i2.2 15 5 (by decide)
    have e2 := i2.2 2 5 (by decide)
    obtain ⟨j1, j2, j3, j4⟩ := zsv_ok (c := c) (o := L N) i1 (by rw [e2, hcc]) (by rw [e15]; exact hL N (by omega))
    refine ⟨j1, ⟨fun i hi => (j2.1 i hi).trans (i2.1 i hi), fun k i hi => (j2.2 k i hi).trans (i2.2 k i hi)⟩, fun p hp => ?_, ?_⟩
    · exact (j3 p (fun e => hp N (by omega) e.symm)).trans (i3 p (fun j hj => hp j (by omega)))
    · show v ≤ (zsv c (L N) (zsq c L (v, σ, α) N)).1 ∧ (zsv c (L N) (zsq c L (v, σ, α) N)).1 ≤ v + ((N + 1 : Nat) : Int)
      omega
/-- the class serves -/
theorem zsv_run {c o : Nat} {S0 : Int → Int} {X : Int × (Nat → Nat → Int) × (Nat → Int → Int)} {M : Nat} {N j : Int} {l4 l5 : Option Value} (H : zQR X.2.1 X.2.2 lo) (hcc : X.2.1 2 5 = c) (hc : c ≤ 40) (ho : (o : Int) < X.2.1 15 5) (hS0 : ∀ j, zr (S0 j)) (hj : 0 ≤ j ∧ j < N ∧ N ≤ 30) (hG : X.2.2 20 j = o) (hv : 0 ≤ X.1 ∧ X.1 ≤ 30) : ∃ m4 m5, zruns (zcall (M + 3)) 1 1 cX1_serveOrders (12, [some (.ref (b + 1)), some (.int (zI X.1)), some (.int (zI N)), some (.int (zI j)), l4, l5], [], (z, zw b X.2.1 (zup X.2.2 166 S0) lo φ)) = zruns (zcall (M + 3)) 1 1 cX1_serveOrders (12, [some (.ref (b + 1)), some (.int (zI (zsv c o X).1)), some (.int (zI N)), some (.int (zI (j + 1))), m4, m5], [], (z, zw b (zsv c o X).2.1 (zup (zsv c o X).2.2 166 S0) lo φ)) := by
  obtain ⟨⟨a1, a2, a3⟩, ⟨b1, b2, b3⟩, _⟩ := zQ_order H o (by omega) ho
  obtain ⟨c0, c1, c2, c3, c4, c5⟩ := zQ_cnt H
  obtain ⟨v, σ, α⟩ := X
  obtain ⟨k, hk⟩ := Int.eq_ofNat_of_zero_le a2
  have hk' : α 16 o = k := hk
  have k16 : k < 16 := by have : α 16 o ≤ 15 := a3; omega
  have k22 : k < 22 := by omega
  have e : ∀ i, i ≠ 166 → zup α 166 S0 i = α i := fun i hi => zup_ne hi
  have hzz : ∀ i j, zr (zup α 166 S0 i j) := zr_up (zQR_rng H) hS0
  have hD := zQR_mix H k22
  change σ 2 5 = c at hcc
  change α 20 j = o at hG
  change 1 ≤ α 17 o at b2
  change α 17 o ≤ 99 at b3
  change 0 ≤ σ 9 5 ∧ σ 9 5 ≤ 30 at c4
  change 0 ≤ σ 15 5 ∧ σ 15 5 ≤ 30 at c5
  change (o : Int) < σ 15 5 at ho
  change 0 ≤ v ∧ v ≤ 30 at hv
  obtain ⟨u, hu, huc, hcm⟩ := tX1_canMake (b := b) (σ := σ) (α := zup α 166 S0) (lo := lo) (φ := φ) (k := k) (n := α 17 o) (S := α 166) (p := k) (c := c) k22 ⟨b2, b3⟩ hcc hc (by rw [e _ (by omega), ← hcc]; exact hD) (fun f a q => by rw [e _ (by decide)]; exact (zQ_limit H f a q).2) hzz
  rw [e _ (by decide), e _ (by decide), e _ (by omega), e _ (by decide)] at huc
  have htk := fun (d : Nat) (z : Nat × Nat) => tX9_take (d := d) (b := b) (z := z) (σ := σ) (α := zup α 166 S0) (lo := lo) (φ := φ) (x := k) (n := α 17 o) k22 c4
  refine ⟨some (.int (zI o)), some (.int (zI k)), ?_⟩
  unfold zsv
  change zruns (zcall (M + 3)) 1 1 cX1_serveOrders (12, [some (.ref (b + 1)), some (.int (zI v)), some (.int (zI N)), some (.int (zI j)), l4, l5], [], (z, zw b σ (zup α 166 S0) lo φ)) = _
  have hkt : (α 16 o).toNat = k := by omega
  by_cases h : zcb σ α k (α 17 o) c = true
  · have hu1 := huc.2 (zcb_iff.1 h)
    rw [hu1] at hcm
    dsimp only
    rw [hkt, if_pos h]
    have efin : ∀ T P Q E W R R' : Int → Int, zup (zup (zup (zup (zup (zup α 166 S0) 11 T) 12 P) 13 Q) 14 E) 19 W = zup (zup (zup (zup (zup (zup (zup (zup α 11 T) 12 P) 13 Q) 14 E) 166 R) 19 W) 166 R') 166 S0 := fun T P Q E W R R' => by
      rw [zup_up]
      rw [zup_c1 (i := 166) (j := 11) (by decide), zup_c1 (i := 166) (j := 12) (by decide), zup_c1 (i := 166) (j := 13) (by decide), zup_c1 (i := 166) (j := 14) (by decide), zup_c1 (i := 166) (j := 19) (by decide)]
      rw [zup_c1 (i := 166) (j := 19) (by decide), zup_up]
    have e19 : ∀ T P Q E : Int → Int, zup (zup (zup (zup (zup α 166 S0) 11 T) 12 P) 13 Q) 14 E 19 = α 19 := fun T P Q E => by
      rw [zup_ne (by decide), zup_ne (by decide), zup_ne (by decide), zup_ne (by decide), zup_ne (by decide)]
    rw [e 11 (by decide), e 12 (by decide), e 13 (by decide), e 14 (by decide), e (8 + 13 + 2 * k + 1) (by omega)] at htk
    unfold zmA
    dsimp only
    rw [← efin]
    repeat' (first | rfl | (exfalso; first | omega | contradiction) | split | (rw [zruns_N 400]; simp (disch := first | assumption | omega | decide | ((simp (disch := omega) only [zup_ne, zup_eq]); first | assumption | omega)) only [sX1_serveOrders_12, sX1_serveOrders_13, sX1_serveOrders_14, sX1_serveOrders_17, sX1_serveOrders_18, sX1_serveOrders_21, sX1_serveOrders_24, sX1_serveOrders_25, sX1_serveOrders_26, sX1_serveOrders_28, sX1_serveOrders_29, sX1_serveOrders_32, sX1_serveOrders_35, sX1_serveOrders_37, sX1_serveOrders_38, sX1_serveOrders_40, sX1_serveOrders_41, sX1_serveOrders_43, sX1_serveOrders_44, sX1_serveOrders_47, sX1_serveOrders_50, sX1_serveOrders_52, sX1_serveOrders_53, sX1_serveOrders_56, sX1_serveOrders_59, sX1_serveOrders_60, sX1_serveOrders_63, sX1_serveOrders_65, sX1_serveOrders_66, sX1_serveOrders_69, sX1_serveOrders_72, sX1_serveOrders_74, sX1_serveOrders_75, sX1_serveOrders_76, sX1_serveOrders_79, sX1_serveOrders_81, sX1_serveOrders_82, sX1_serveOrders_85, sX1_serveOrders_86, sX1_serveOrders_87, sX1_serveOrders_90, sX1_serveOrders_93, sX1_serveOrders_95, sX1_serveOrders_96, sX1_serveOrders_97, sX1_serveOrders_100, sX1_serveOrders_103, zkp_i, zkp_a, zkp_f, zkp_l, zkp_d, zkp_n, ycl_eq, zI_add, zI_sub, zI_mul, zI_neg, zI_inj, zI_lt, zI_le, zI_eq0, zI_lt0, zI_gt0, zI_le0, zI_ge0, yil_ok, yll_ok, yfl_ok, yis_ok, yls_ok, yfs_ok, y0_s, y1_s, ybo_ok, zset_w, zruns_if, zui_eq, zus_eq, zup_eq, Int.reduceAdd, Int.reduceSub, Int.reduceMul, Int.reduceNeg, Int.reduceLT, Int.reduceLE, Int.reduceEq, if_true, if_false, not_true_eq_false, not_false_eq_true, zw_0, zp_0_2, zw_1, zw_2, zp_2_5, zw_3, zp_3, zw_4, zp_4, zw_5, zp_5, zw_6, zp_6, zw_7, zp_7, zw_8, zw_9, zp_9_5, zw_10, zp_10, zw_11, zp_11, zw_12, zp_12, zw_13, zp_13, zw_14, zp_14, zw_15, zp_15_5, zw_16, zp_16, zw_17, zp_17, zw_18, zp_18, zw_19, zp_19, zw_20, zp_20, zw_65, zw_66, zp_66_5, zw_67, zp_67, zw_68, zp_68, zw_69, zp_69, zw_70, zp_70, zw_71, zp_71, zw_72, zw_73, zp_73_5, zw_74, zp_74, zw_75, zp_75, zw_76, zp_76, zw_77, zp_77, zw_78, zp_78, zw_79, zp_79_5, zw_80, zp_80, zw_81, zp_81, zw_82, zp_82, zw_83, zp_83, zw_84, zp_84, zw_129, zp_129_1, zw_130, zp_130, zw_131, zp_131_1, zw_132, zp_132, zw_133, zp_133_5, zp_133_6, zp_133_7, zw_134, zp_134, zw_135, zp_135, zw_136, zp_136, zw_137, zw_138, zp_138_1, zw_139, zp_139, zw_140, zp_140_1, zw_141, zp_141, zw_142, zp_142, zw_143, zw_144, zp_144_1, zw_145, zp_145, zw_146, zp_146_4, zw_147, zp_147, zw_148, zp_148, zw_149, zp_149, zw_150, zp_150, zw_151, zw_152, zp_152, zw_153, zp_153_1, zp_153_2, zp_153_3, zw_154, zp_154, zw_155, zp_155_1, zp_155_2, zp_155_3, zw_156, zp_156, zw_157, zp_157_1, zp_157_2, zp_157_3, zw_158, zp_158, zw_159, zp_159_1, zp_159_2, zp_159_3, zw_160, zp_160, zw_161, zp_161_1, zp_161_2, zp_161_3, zw_162, zp_162, zw_163, zp_163_1, zp_163_2, zp_163_3, zw_164, zp_164, yg0_0, yg0_1, yg0_2, yg0_3, yg0_4, yg1_0, yg1_1, yg1_2, yg1_3, yg2_0, yg2_1, yg2_2, yg3_0, yg3_1, yg4_0, yg5_0, yg5_1, yg5_2, yg5_3, yg5_4, yg5_5, yg6_0, yg6_1, yg6_2, yg6_3, yg6_4, yg6_5, yg7_0, yg7_1, yg7_2, yg7_3, yg7_4, yg7_5, yg7_6, yg7_7, yg8_0, yg8_1, yg8_2, yg8_3, yg9_0, yg9_1, yg9_2, yg9_3, yg9_4, yg9_5, yg10_0, yg10_1, yg11_0, yg11_1, yg11_2, yg11_3, yg11_4, yg11_5, yg11_6, yg11_7, yg11_8, yg11_9, yg11_10, yp0_0, yp0_1, yp0_2, yp0_3, yp0_4, yp1_0, yp1_1, yp1_2, yp1_3, yp2_0, yp2_1, yp2_2, yp3_0, yp3_1, yp4_0, yp5_0, yp5_1, yp5_2, yp5_3, yp5_4, yp5_5, yp6_0, yp6_1, yp6_2, yp6_3, yp6_4, yp6_5, yp7_0, yp7_1, yp7_2, yp7_3, yp7_4, yp7_5, yp7_6, yp7_7, yp8_0, yp8_1, yp8_2, yp8_3, yp9_0, yp9_1, yp9_2, yp9_3, yp9_4, yp9_5, yp10_0, yp10_1, yp11_0, yp11_1, yp11_2, yp11_3, yp11_4, yp11_5, yp11_6, yp11_7, yp11_8, yp11_9, yp11_10, e 20 (by decide), e 16 (by decide), e 17 (by decide), hG, hk', hcm, htk, e19, yal_m (k := 8) (n := 22) (j := k) rfl k22 (by decide)]))
  · have hu0 : u = 0 := by
      rcases hu with q | q
      · exact q
      · exact absurd (zcb_iff.2 (huc.1 q)) h
    rw [hu0] at hcm
    dsimp only
    rw [hkt, if_neg h]
    repeat' (first | rfl | (exfalso; first | omega | contradiction) | split | (rw [zruns_N 400]; simp (disch := first | assumption | omega | decide | ((simp (disch := omega) only [zup_ne, zup_eq]); first | assumption | omega)) only [sX1_serveOrders_12, sX1_serveOrders_13, sX1_serveOrders_14, sX1_serveOrders_17, sX1_serveOrders_18, sX1_serveOrders_21, sX1_serveOrders_24, sX1_serveOrders_25, sX1_serveOrders_26, sX1_serveOrders_28, sX1_serveOrders_29, sX1_serveOrders_32, sX1_serveOrders_35, sX1_serveOrders_37, sX1_serveOrders_38, sX1_serveOrders_40, sX1_serveOrders_41, sX1_serveOrders_43, sX1_serveOrders_44, sX1_serveOrders_47, sX1_serveOrders_50, sX1_serveOrders_52, sX1_serveOrders_53, sX1_serveOrders_56, sX1_serveOrders_59, sX1_serveOrders_60, sX1_serveOrders_63, sX1_serveOrders_65, sX1_serveOrders_66, sX1_serveOrders_69, sX1_serveOrders_72, sX1_serveOrders_74, sX1_serveOrders_75, sX1_serveOrders_76, sX1_serveOrders_79, sX1_serveOrders_81, sX1_serveOrders_82, sX1_serveOrders_85, sX1_serveOrders_86, sX1_serveOrders_87, sX1_serveOrders_90, sX1_serveOrders_93, sX1_serveOrders_95, sX1_serveOrders_96, sX1_serveOrders_97, sX1_serveOrders_100, sX1_serveOrders_103, zkp_i, zkp_a, zkp_f, zkp_l, zkp_d, zkp_n, ycl_eq, zI_add, zI_sub, zI_mul, zI_neg, zI_inj, zI_lt, zI_le, zI_eq0, zI_lt0, zI_gt0, zI_le0, zI_ge0, yil_ok, yll_ok, yfl_ok, yis_ok, yls_ok, yfs_ok, y0_s, y1_s, ybo_ok, zset_w, zruns_if, zui_eq, zus_eq, zup_eq, Int.reduceAdd, Int.reduceSub, Int.reduceMul, Int.reduceNeg, Int.reduceLT, Int.reduceLE, Int.reduceEq, if_true, if_false, not_true_eq_false, not_false_eq_true, zw_0, zp_0_2, zw_1, zw_2, zp_2_5, zw_3, zp_3, zw_4, zp_4, zw_5, zp_5, zw_6, zp_6, zw_7, zp_7, zw_8, zw_9, zp_9_5, zw_10, zp_10, zw_11, zp_11, zw_12, zp_12, zw_13, zp_13, zw_14, zp_14, zw_15, zp_15_5, zw_16, zp_16, zw_17, zp_17, zw_18, zp_18, zw_19, zp_19, zw_20, zp_20, zw_65, zw_66, zp_66_5, zw_67, zp_67, zw_68, zp_68, zw_69, zp_69, zw_70, zp_70, zw_71, zp_71, zw_72, zw_73, zp_73_5, zw_74, zp_74, zw_75, zp_75, zw_76, zp_76, zw_77, zp_77, zw_78, zp_78, zw_79, zp_79_5, zw_80, zp_80, zw_81, zp_81, zw_82, zp_82, zw_83, zp_83, zw_84, zp_84, zw_129, zp_129_1, zw_130, zp_130, zw_131, zp_131_1, zw_132, zp_132, zw_133, zp_133_5, zp_133_6, zp_133_7, zw_134, zp_134, zw_135, zp_135, zw_136, zp_136, zw_137, zw_138, zp_138_1, zw_139, zp_139, zw_140, zp_140_1, zw_141, zp_141, zw_142, zp_142, zw_143, zw_144, zp_144_1, zw_145, zp_145, zw_146, zp_146_4, zw_147, zp_147, zw_148, zp_148, zw_149, zp_149, zw_150, zp_150, zw_151, zw_152, zp_152, zw_153, zp_153_1, zp_153_2, zp_153_3, zw_154, zp_154, zw_155, zp_155_1, zp_155_2, zp_155_3, zw_156, zp_156, zw_157, zp_157_1, zp_157_2, zp_157_3, zw_158, zp_158, zw_159, zp_159_1, zp_159_2, zp_159_3, zw_160, zp_160, zw_161, zp_161_1, zp_161_2, zp_161_3, zw_162, zp_162, zw_163, zp_163_1, zp_163_2, zp_163_3, zw_164, zp_164, yg0_0, yg0_1, yg0_2, yg0_3, yg0_4, yg1_0, yg1_1, yg1_2, yg1_3, yg2_0, yg2_1, yg2_2, yg3_0, yg3_1, yg4_0, yg5_0, yg5_1, yg5_2, yg5_3, yg5_4, yg5_5, yg6_0, yg6_1, yg6_2, yg6_3, yg6_4, yg6_5, yg7_0, yg7_1, yg7_2, yg7_3, yg7_4, yg7_5, yg7_6, yg7_7, yg8_0, yg8_1, yg8_2, yg8_3, yg9_0, yg9_1, yg9_2, yg9_3, yg9_4, yg9_5, yg10_0, yg10_1, yg11_0, yg11_1, yg11_2, yg11_3, yg11_4, yg11_5, yg11_6, yg11_7, yg11_8, yg11_9, yg11_10, yp0_0, yp0_1, yp0_2, yp0_3, yp0_4, yp1_0, yp1_1, yp1_2, yp1_3, yp2_0, yp2_1, yp2_2, yp3_0, yp3_1, yp4_0, yp5_0, yp5_1, yp5_2, yp5_3, yp5_4, yp5_5, yp6_0, yp6_1, yp6_2, yp6_3, yp6_4, yp6_5, yp7_0, yp7_1, yp7_2, yp7_3, yp7_4, yp7_5, yp7_6, yp7_7, yp8_0, yp8_1, yp8_2, yp8_3, yp9_0, yp9_1, yp9_2, yp9_3, yp9_4, yp9_5, yp10_0, yp10_1, yp11_0, yp11_1, yp11_2, yp11_3, yp11_4, yp11_5, yp11_6, yp11_7, yp11_8, yp11_9, yp11_10, e 20 (by decide), e 16 (by decide), e 17 (by decide), hG, hk', hcm]))
end SERVE
