/-! ===== the reference does a part: an accord ===== -/
/-- i sums laid -/
def zad (m O : Int → Int) (i : Int) : Int → Int := fun j => if 0 ≤ j ∧ j < i then m j + O j else m j
theorem zad_0 {m O : Int → Int} : zad m O ((0 : Nat) : Int) = m := by
  funext j
  exact if_neg (by omega)
theorem zad_s {m O : Int → Int} {i : Nat} : zui (zad m O i) i (m i + O i) = zad m O ((i + 1 : Nat) : Int) := by
  funext j
  unfold zui zad
  by_cases e : j = i
  · rw [if_pos e, if_pos (by omega), e]
  · rw [if_neg e]
    by_cases q : 0 ≤ j ∧ j < (i : Int)
    · rw [if_pos q, if_pos (by omega)]
    · rw [if_neg q, if_neg (by omega)]
theorem zad_at {m O : Int → Int} {i j : Int} (h : 0 ≤ j ∧ j < i) : zad m O i j = m j + O j := if_pos h
theorem zad_ge {m O : Int → Int} {i j : Int} (h : i ≤ j) : zad m O i j = m j := if_neg (by omega)
section PARTOP2
variable {d b : Nat} {z : Nat × Nat} {σ : Nat → Nat → Int} {α lo : Nat → Int → Int} {φ : Nat → Int → UInt32} {c k : Nat} {D Dk : Int → Int} {s w v Ak ai : Int}
theorem zrop_a {l4 l5 : Option Value} (hM : zMD α D c) (hc : c ≤ 40) (hc0 : α 166 0 = c) (hDz : ∀ j : Int, c ≤ j → j < 40 → D j = 0) (hw : w = k) (hk6 : k < 6) (hv : 0 ≤ v ∧ v ≤ 9999) (hz : ∀ k j, zr (α k j)) (hD : zRD (α 166) c ((16 + k : Nat) : Int) Dk Ak) : (zopk 64 w v D Dk Ak c → ∃ (α' lo' : Nat → Int → Int), (∀ (d : Nat) (z : Nat × Nat), zruns (zcall (d + 4)) 12 2 cX12_partDone (52, [some (.ref (b + 165)), some (.int (zI ai)), some (.int (zI w)), some (.int (zI v)), l4, l5], [], (z, zw b σ α lo φ)) = some (some (.int (zI 1)), (z, zw b σ α' lo' φ))) ∧ zMD α' (zopf 64 w v D Dk Ak c) c ∧ zRf α α' lo lo') ∧ (¬ zopk 64 w v D Dk Ak c → ∃ (α' lo' : Nat → Int → Int), (∀ (d : Nat) (z : Nat × Nat), zruns (zcall (d + 4)) 12 2 cX12_partDone (52, [some (.ref (b + 165)), some (.int (zI ai)), some (.int (zI w)), some (.int (zI v)), l4, l5], [], (z, zw b σ α lo φ)) = some (some (.int (zI 0)), (z, zw b σ α' lo' φ))) ∧ zRf α α' lo lo') := by
  obtain ⟨h1, h2⟩ := hM
  subst hw
  have hA := zRD_A hD
  obtain ⟨r1, r2, r3, r4⟩ := id hD
  have hal := fun (d : Nat) (z : Nat × Nat) => tX12_all (d := d) (b := b) (z := z) (σ := σ) (lo := lo) (φ := φ) (c := 16 + k) (k := 16 + k) hD (by omega) hc0 (by omega)
  rw [show ((16 + k : Nat) : Int) = 16 + (k : Int) by omega] at hal
  have hDc : zsm Dk c = Ak := by
    rw [r4, show 40 = c + (40 - c) by omega, zsm_z' _ (fun n a e => r3 n (by omega) (by omega))]
  unfold zopk zopf
  rw [if_neg (by decide), if_neg (by decide), if_neg (by decide), if_pos rfl, if_neg (by decide), if_neg (by decide), if_neg (by decide), if_pos rfl]
  by_cases hA0 : 0 < Ak
  · have hsh := fun (d : Nat) (z : Nat × Nat) => tX12_shares (d := d) (b := b) (z := z) (σ := σ) (α := α) (lo := lo) (φ := φ) (p := 0) (n := v) (k := 16 + (k : Int)) (A := Ak) (c := c) (D := Dk) (Or.inl rfl) (fun _ => hal) (fun e => absurd e (by decide)) (fun _ => ⟨by omega, fun j a e => by have := r1 j a e; rw [show ((16 + k : Nat) : Int) = 16 + (k : Int) by omega] at this; exact this.symm⟩) (fun e => absurd e (by decide)) hc0 hc hA0 hA.2 (fun j a e => r2 j a (by omega)) hDc hv
    obtain ⟨a1, a2, a3, a4, a5⟩ := zso_ok (D := Dk) (old := fun _ => 0) (ro := fun _ => 0) (old' := α 171) (ro' := lo 173) (n := v) (A := Ak) (c := c) r2 r3 r4.symm hA0 hv hc
    have hlf := zlf (D := Dk) (n := v) (A := Ak) (c := c) (fun j a e => r2 j a (by omega)) hv.1 hA0 hDc
    have hzO : ∀ j, zr ((zsr (α 171) Dk (lo 173) v Ak c).1 j) := zgq_z (c : Int) (hz 171) (fun j a e => r2 j a (by omega)) hv hA0 ⟨hlf.2.2, Int.le_refl _⟩ _ _ (by omega)
    obtain ⟨O, hO⟩ : ∃ O, O = (zsr (α 171) Dk (lo 173) v Ak c).1 := ⟨_, rfl⟩
    obtain ⟨W, hW⟩ : ∃ W, W = (zsr (α 171) Dk (lo 173) v Ak c).2 := ⟨_, rfl⟩
    rw [← hO] at a1 hzO
    rw [← hO, ← hW] at hsh
    have hOq : ∀ j : Int, 0 ≤ j → j < c → O j = zQf Dk Ak v c j ∧ 0 ≤ O j ∧ O j ≤ 9999 := fun j a e => by
      have := a3 j a (by omega)
      rw [a1 j a e] at this
      refine ⟨(a1 j a e).symm, by omega, by omega⟩
    have f0 : ∀ X, zup (zup α 171 O) 170 X 166 = α 166 := fun X => by rw [zup_ne (by decide), zup_ne (by decide)]
    have f1 : ∀ X, zup (zup α 171 O) 170 X 171 = O := fun X => by rw [zup_ne (by decide), zup_eq]
    have hpre : ∀ i : Nat, i ≤ c → (∀ j : Nat, j < i → D j + O j ≤ 9999) → ∀ (d : Nat) (z : Nat × Nat), zruns (zcall (d + 4)) 12 2 cX12_partDone (52, [some (.ref (b + 165)), some (.int (zI ai)), some (.int (zI k)), some (.int (zI v)), l4, l5], [], (z, zw b σ α lo φ)) = zruns (zcall (d + 4)) 12 2 cX12_partDone (67, [some (.ref (b + 165)), some (.int (zI ai)), some (.int (zI k)), some (.int (zI v)), some (.int (zI 1)), some (.int (zI i))], [], (z, zw b σ (zup (zup α 171 O) 170 (zad (α 170) O i)) (zup lo 173 W) φ)) := by
      intro i hi hok d z
      rw [zruns_N 400]
      simp (disch := first | assumption | omega | decide | ((simp (disch := omega) only [zup_ne, zup_eq]); first | assumption | omega)) only [sX12_partDone_52, sX12_partDone_53, sX12_partDone_54, sX12_partDone_55, sX12_partDone_57, sX12_partDone_58, sX12_partDone_59, sX12_partDone_62, sX12_partDone_64, sX12_partDone_65, zkp_i, zkp_a, zkp_f, zkp_l, zkp_d, zkp_n, ycl_eq, zI_add, zI_sub, zI_mul, zI_neg, zI_inj, zI_lt, zI_le, zI_eq0, zI_lt0, zI_gt0, zI_le0, zI_ge0, yil_ok, yll_ok, yfl_ok, yis_ok, yls_ok, yfs_ok, y0_s, y1_s, ybo_ok, zset_w, zruns_if, zui_eq, zus_eq, zup_eq, Int.reduceAdd, Int.reduceSub, Int.reduceMul, Int.reduceNeg, Int.reduceLT, Int.reduceLE, Int.reduceEq, if_true, if_false, not_true_eq_false, not_false_eq_true, zw_165, zp_165_2, zp_165_9, zp_165_10, zp_165_11, zp_165_12, zp_165_13, zp_165_14, zw_166, zp_166, zw_167, zp_167, zw_168, zp_168, zw_169, zp_169, zw_170, zp_170, zw_171, zp_171, zw_172, zp_172, zw_173, zp_173, zw_174, zp_174, zw_175, zp_175, zw_176, zp_176, zw_177, zp_177, zw_178, zp_178, zw_179, zp_179, yg12_0, yg12_1, yg12_2, yg12_3, yg12_4, yg12_5, yg12_6, yg12_7, yg12_8, yg12_9, yg12_10, yg12_11, yg12_12, yg12_13, yg12_14, yg12_15, yg12_16, yg12_17, yg12_18, yg12_19, yg12_20, yp12_0, yp12_1, yp12_2, yp12_3, yp12_4, yp12_5, yp12_6, yp12_7, yp12_8, yp12_9, yp12_10, yp12_11, yp12_12, yp12_13, yp12_14, yp12_15, yp12_16, yp12_17, yp12_18, yp12_19, yp12_20, hsh]
      rw [← zruns_N]
      refine Eq.trans ?_ (zloop (run := zruns (zcall (d + 4)) 12 2 cX12_partDone) (fun i => (67, [some (.ref (b + 165)), some (.int (zI ai)), some (.int (zI k)), some (.int (zI v)), some (.int (zI 1)), some (.int (zI i))], [], (z, zw b σ (zup (zup α 171 O) 170 (zad (α 170) O i)) (zup lo 173 W) φ))) i (fun j hj => ?_) rfl)
      · rw [zad_0, show zup (zup α 171 O) 170 (α 170) = zup α 171 O from zup_id (by rw [zup_ne (by decide)])]
        rfl
      · have hs := hok j hj
        have ho := hOq j (by omega) (by omega)
        have hm := h1 j (by omega) (by omega)
        have ec : zad (α 170) O j j = α 170 j := zad_ge (Int.le_refl _)
        have hcm := tX12_comes (d := d + 2) (b := b) (z := z) (σ := σ) (α := zup (zup α 171 O) 170 (zad (α 170) O j)) (lo := zup lo 173 W) (φ := φ) (n := j) (v := O j) (by omega) (by rw [zup_eq, ec]; unfold zr; omega)
        rw [zup_eq, ec, if_pos (by omega), zup_up, zad_s] at hcm
        rw [show ((j + 1 : Nat) : Int) = (j : Int) + 1 by omega] at hcm ⊢
        repeat' (first | rfl | (exfalso; first | omega | contradiction) | split | (rw [zruns_N 400]; simp (disch := first | assumption | omega | decide | ((simp (disch := omega) only [zup_ne, zup_eq]); first | assumption | omega)) only [sX12_partDone_67, sX12_partDone_69, sX12_partDone_70, sX12_partDone_73, sX12_partDone_74, sX12_partDone_75, sX12_partDone_78, sX12_partDone_80, sX12_partDone_83, sX12_partDone_84, sX12_partDone_86, sX12_partDone_87, sX12_partDone_90, sX12_partDone_92, sX12_partDone_93, sX12_partDone_96, sX12_partDone_98, sX12_partDone_101, zkp_i, zkp_a, zkp_f, zkp_l, zkp_d, zkp_n, ycl_eq, zI_add, zI_sub, zI_mul, zI_neg, zI_inj, zI_lt, zI_le, zI_eq0, zI_lt0, zI_gt0, zI_le0, zI_ge0, yil_ok, yll_ok, yfl_ok, yis_ok, yls_ok, yfs_ok, y0_s, y1_s, ybo_ok, zset_w, zruns_if, zui_eq, zus_eq, zup_eq, Int.reduceAdd, Int.reduceSub, Int.reduceMul, Int.reduceNeg, Int.reduceLT, Int.reduceLE, Int.reduceEq, if_true, if_false, not_true_eq_false, not_false_eq_true, zw_165, zp_165_2, zp_165_9, zp_165_10, zp_165_11, zp_165_12, zp_165_13, zp_165_14, zw_166, zp_166, zw_167, zp_167, zw_168, zp_168, zw_169, zp_169, zw_170, zp_170, zw_171, zp_171, zw_172, zp_172, zw_173, zp_173, zw_174, zp_174, zw_175, zp_175, zw_176, zp_176, zw_177, zp_177, zw_178, zp_178, zw_179, zp_179, yg12_0, yg12_1, yg12_2, yg12_3, yg12_4, yg12_5, yg12_6, yg12_7, yg12_8, yg12_9, yg12_10, yg12_11, yg12_12, yg12_13, yg12_14, yg12_15, yg12_16, yg12_17, yg12_18, yg12_19, yg12_20, yp12_0, yp12_1, yp12_2, yp12_3, yp12_4, yp12_5, yp12_6, yp12_7, yp12_8, yp12_9, yp12_10, yp12_11, yp12_12, yp12_13, yp12_14, yp12_15, yp12_16, yp12_17, yp12_18, yp12_19, yp12_20, f0, f1, hc0, hcm]))
    constructor
    · rintro ⟨_, hk⟩
      have hok : ∀ j : Nat, j < c → D j + O j ≤ 9999 := fun j hj => by
        rw [(hOq j (by omega) (by omega)).1]
        exact hk j (by omega) (by omega)
      have hzm : ∀ j, zr (zad (α 170) O c j) := fun j => by
        unfold zad
        split
        · rename_i q
          have := h1 j q.1 q.2
          have := hOq j q.1 q.2
          unfold zr
          omega
        · exact h2 j
      refine ⟨zup (zup α 171 O) 170 (zad (α 170) O c), zup lo 173 W, fun d z => ?_, ⟨fun j a e => ?_, fun j => ?_⟩, fun k e => by rw [zup_ne e.1, zup_ne e.2], fun k e => zup_ne e, zr_up (zr_up hz hzO) hzm⟩
      · rw [hpre c (Nat.le_refl _) hok]
        repeat' (first | rfl | (exfalso; first | omega | contradiction) | split | (rw [zruns_N 400]; simp (disch := first | assumption | omega | decide | ((simp (disch := omega) only [zup_ne, zup_eq]); first | assumption | omega)) only [sX12_partDone_67, sX12_partDone_69, sX12_partDone_70, sX12_partDone_73, sX12_partDone_74, sX12_partDone_75, sX12_partDone_78, sX12_partDone_80, sX12_partDone_83, sX12_partDone_84, sX12_partDone_86, sX12_partDone_87, sX12_partDone_90, sX12_partDone_92, sX12_partDone_93, sX12_partDone_96, sX12_partDone_98, sX12_partDone_101, sX12_partDone_104, sX12_partDone_106, zkp_i, zkp_a, zkp_f, zkp_l, zkp_d, zkp_n, ycl_eq, zI_add, zI_sub, zI_mul, zI_neg, zI_inj, zI_lt, zI_le, zI_eq0, zI_lt0, zI_gt0, zI_le0, zI_ge0, yil_ok, yll_ok, yfl_ok, yis_ok, yls_ok, yfs_ok, y0_s, y1_s, ybo_ok, zset_w, zruns_if, zui_eq, zus_eq, zup_eq, Int.reduceAdd, Int.reduceSub, Int.reduceMul, Int.reduceNeg, Int.reduceLT, Int.reduceLE, Int.reduceEq, if_true, if_false, not_true_eq_false, not_false_eq_true, zw_165, zp_165_2, zp_165_9, zp_165_10, zp_165_11, zp_165_12, zp_165_13, zp_165_14, zw_166, zp_166, zw_167, zp_167, zw_168, zp_168, zw_169, zp_169, zw_170, zp_170, zw_171, zp_171, zw_172, zp_172, zw_173, zp_173, zw_174, zp_174, zw_175, zp_175, zw_176, zp_176, zw_177, zp_177, zw_178, zp_178, zw_179, zp_179, yg12_0, yg12_1, yg12_2, yg12_3, yg12_4, yg12_5, yg12_6, yg12_7, yg12_8, yg12_9, yg12_10, yg12_11, yg12_12, yg12_13, yg12_14, yg12_15, yg12_16, yg12_17, yg12_18, yg12_19, yg12_20, yp12_0, yp12_1, yp12_2, yp12_3, yp12_4, yp12_5, yp12_6, yp12_7, yp12_8, yp12_9, yp12_10, yp12_11, yp12_12, yp12_13, yp12_14, yp12_15, yp12_16, yp12_17, yp12_18, yp12_19, yp12_20, f0, hc0]))
      · rw [zup_eq, zad_at ⟨a, e⟩]
        obtain ⟨i, rfl⟩ := Int.eq_ofNat_of_zero_le a
        have g1 := h1 i a e
        have g2 := hOq i a e
        have g3 := hok i (by omega)
        show α 170 i + O i = D i + zQf Dk Ak v c i ∧ 0 ≤ D i + zQf Dk Ak v c i ∧ D i + zQf Dk Ak v c i ≤ 9999
        rw [← g2.1, g1.1]
        exact ⟨rfl, by omega, by omega⟩
      · rw [zup_eq]
        exact hzm j
    · intro hk
      have hno : ¬ ∀ j : Nat, j < c → D j + O j ≤ 9999 := fun hok => hk ⟨hA0, fun j a e => by
        by_cases q : j < c
        · obtain ⟨i, rfl⟩ := Int.eq_ofNat_of_zero_le a
          rw [← (hOq i a q).1]
          exact hok i (by omega)
        · rw [hDz j (by omega) e, show zQf Dk Ak v c j = 0 from a2 j (by omega) e]
          decide⟩
      obtain ⟨i, i1, i2, i3⟩ := zfirst c hno
      have hm := h1 i (by omega) (by omega)
      have ho := hOq i (by omega) (by omega)
      have ec : zad (α 170) O i i = α 170 i := zad_ge (Int.le_refl _)
      have hzm : ∀ q : Nat, q ≤ i + 1 → ∀ j, zr (zad (α 170) O q j) := fun q hq j => by
        unfold zad
        split
        · rename_i w
          have := h1 j w.1 (by omega)
          have := hOq j w.1 (by omega)
          unfold zr
          omega
        · exact h2 j
      refine ⟨zup (zup α 171 O) 170 (zad (α 170) O ((i + 1 : Nat) : Int)), zup lo 173 W, fun d z => ?_, fun k e => by rw [zup_ne e.1, zup_ne e.2], fun k e => zup_ne e, zr_up (zr_up hz hzO) (hzm (i + 1) (Nat.le_refl _))⟩
      rw [hpre i (by omega) i3]
      have hcm := tX12_comes (d := d + 2) (b := b) (z := z) (σ := σ) (α := zup (zup α 171 O) 170 (zad (α 170) O i)) (lo := zup lo 173 W) (φ := φ) (n := i) (v := O i) (by omega) (by rw [zup_eq, ec]; unfold zr; omega)
      rw [zup_eq, ec, if_neg (by omega), zup_up, zad_s] at hcm
      repeat' (first | rfl | (exfalso; first | omega | contradiction) | split | (rw [zruns_N 400]; simp (disch := first | assumption | omega | decide | ((simp (disch := omega) only [zup_ne, zup_eq]); first | assumption | omega)) only [sX12_partDone_67, sX12_partDone_69, sX12_partDone_70, sX12_partDone_73, sX12_partDone_74, sX12_partDone_75, sX12_partDone_78, sX12_partDone_80, sX12_partDone_83, sX12_partDone_84, sX12_partDone_86, sX12_partDone_87, sX12_partDone_90, sX12_partDone_92, sX12_partDone_93, sX12_partDone_96, sX12_partDone_98, sX12_partDone_101, sX12_partDone_104, sX12_partDone_106, zkp_i, zkp_a, zkp_f, zkp_l, zkp_d, zkp_n, ycl_eq, zI_add, zI_sub, zI_mul, zI_neg, zI_inj, zI_lt, zI_le, zI_eq0, zI_lt0, zI_gt0, zI_le0, zI_ge0, yil_ok, yll_ok, yfl_ok, yis_ok, yls_ok, yfs_ok, y0_s, y1_s, ybo_ok, zset_w, zruns_if, zui_eq, zus_eq, zup_eq, Int.reduceAdd, Int.reduceSub, Int.reduceMul, Int.reduceNeg, Int.reduceLT, Int.reduceLE, Int.reduceEq, if_true, if_false, not_true_eq_false, not_false_eq_true, zw_165, zp_165_2, zp_165_9, zp_165_10, zp_165_11, zp_165_12, zp_165_13, zp_165_14, zw_166, zp_166, zw_167, zp_167, zw_168, zp_168, zw_169, zp_169, zw_170, zp_170, zw_171, zp_171, zw_172, zp_172, zw_173, zp_173, zw_174, zp_174, zw_175, zp_175, zw_176, zp_176, zw_177, zp_177, zw_178, zp_178, zw_179, zp_179, yg12_0, yg12_1, yg12_2, yg12_3, yg12_4, yg12_5, yg12_6, yg12_7, yg12_8, yg12_9, yg12_10, yg12_11, yg12_12, yg12_13, yg12_14, yg12_15, yg12_16, yg12_17, yg12_18, yg12_19, yg12_20, yp12_0, yp12_1, yp12_2, yp12_3, yp12_4, yp12_5, yp12_6, yp12_7, yp12_8, yp12_9, yp12_10, yp12_11, yp12_12, yp12_13, yp12_14, yp12_15, yp12_16, yp12_17, yp12_18, yp12_19, yp12_20, f0, f1, hc0, hcm]))
  · have eA : Ak = 0 := by omega
    rw [eA] at hal
    have hsh := fun (d : Nat) (z : Nat × Nat) => tX12_shares_0 (d := d) (b := b) (z := z) (σ := σ) (α := α) (lo := lo) (φ := φ) (p := 0) (n := v) (k := 16 + (k : Int)) (Or.inl rfl) (fun _ => hal) (fun e => absurd e (by decide))
    refine ⟨fun h => absurd h.1 hA0, fun _ => ⟨α, lo, fun d z => ?_, fun _ _ => rfl, fun _ _ => rfl, hz⟩⟩
    repeat' (first | rfl | (exfalso; first | omega | contradiction) | split | (rw [zruns_N 400]; simp (disch := first | assumption | omega | decide | ((simp (disch := omega) only [zup_ne, zup_eq]); first | assumption | omega)) only [sX12_partDone_52, sX12_partDone_53, sX12_partDone_54, sX12_partDone_55, sX12_partDone_57, sX12_partDone_58, sX12_partDone_59, sX12_partDone_62, sX12_partDone_64, sX12_partDone_65, sX12_partDone_67, sX12_partDone_69, sX12_partDone_70, sX12_partDone_73, sX12_partDone_74, sX12_partDone_75, sX12_partDone_78, sX12_partDone_80, sX12_partDone_83, sX12_partDone_84, sX12_partDone_86, sX12_partDone_87, sX12_partDone_90, sX12_partDone_92, sX12_partDone_93, sX12_partDone_96, sX12_partDone_98, sX12_partDone_101, sX12_partDone_104, sX12_partDone_106, zkp_i, zkp_a, zkp_f, zkp_l, zkp_d, zkp_n, ycl_eq, zI_add, zI_sub, zI_mul, zI_neg, zI_inj, zI_lt, zI_le, zI_eq0, zI_lt0, zI_gt0, zI_le0, zI_ge0, yil_ok, yll_ok, yfl_ok, yis_ok, yls_ok, yfs_ok, y0_s, y1_s, ybo_ok, zset_w, zruns_if, zui_eq, zus_eq, zup_eq, Int.reduceAdd, Int.reduceSub, Int.reduceMul, Int.reduceNeg, Int.reduceLT, Int.reduceLE, Int.reduceEq, if_true, if_false, not_true_eq_false, not_false_eq_true, zw_165, zp_165_2, zp_165_9, zp_165_10, zp_165_11, zp_165_12, zp_165_13, zp_165_14, zw_166, zp_166, zw_167, zp_167, zw_168, zp_168, zw_169, zp_169, zw_170, zp_170, zw_171, zp_171, zw_172, zp_172, zw_173, zp_173, zw_174, zp_174, zw_175, zp_175, zw_176, zp_176, zw_177, zp_177, zw_178, zp_178, zw_179, zp_179, yg12_0, yg12_1, yg12_2, yg12_3, yg12_4, yg12_5, yg12_6, yg12_7, yg12_8, yg12_9, yg12_10, yg12_11, yg12_12, yg12_13, yg12_14, yg12_15, yg12_16, yg12_17, yg12_18, yg12_19, yg12_20, yp12_0, yp12_1, yp12_2, yp12_3, yp12_4, yp12_5, yp12_6, yp12_7, yp12_8, yp12_9, yp12_10, yp12_11, yp12_12, yp12_13, yp12_14, yp12_15, yp12_16, yp12_17, yp12_18, yp12_19, yp12_20, hsh, hc0]))
end PARTOP2
