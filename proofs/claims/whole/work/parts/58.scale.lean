/-! ===== the public calls: scale ===== -/
theorem zsm_el {G : Int → Int} : ∀ c : Nat, (∀ k : Int, 0 ≤ k → k < c → 0 ≤ G k) → ∀ i : Int, 0 ≤ i → i < c → G i ≤ zsm G c := by
  intro c
  induction c with
  | zero => intro _ i a e; omega
  | succ c ih =>
    intro h i a e
    have h0 : ∀ m : Nat, m ≤ c → 0 ≤ zsm G m := by
      intro m
      induction m with
      | zero => intro _; exact Int.le_refl 0
      | succ m ihm =>
        intro hm
        have h1 := ihm (by omega)
        have h2 := h m (by omega) (by omega)
        show 0 ≤ zsm G m + G m
        omega
    show G i ≤ zsm G c + G c
    by_cases q : i = c
    · rw [q]
      have := h0 c (Nat.le_refl _)
      omega
    · have := ih (fun k a b => h k a (by omega)) i a (by omega)
      have := h c (by omega) (by omega)
      omega
theorem zso_ok {D old ro old' ro' : Int → Int} {n A : Int} {c : Nat} (hDb : ∀ j : Int, 0 ≤ j → j < 40 → 0 ≤ D j ∧ D j ≤ 9999) (hDz : ∀ j : Int, c ≤ j → j < 40 → D j = 0) (hDs : zsm D 40 = A) (hA0 : 0 < A) (hn : 0 ≤ n ∧ n ≤ 9999) (hc : c ≤ 40) : (∀ j : Int, 0 ≤ j → j < c → (zso old D ro n A c).1 j = (zsr old' D ro' n A c).1 j) ∧ (∀ j : Int, c ≤ j → j < 40 → (zso old D ro n A c).1 j = 0) ∧ (∀ j : Int, 0 ≤ j → j < 40 → 0 ≤ (zso old D ro n A c).1 j ∧ (zso old D ro n A c).1 j ≤ n) ∧ zsm (zso old D ro n A c).1 40 = n ∧ (∀ j : Int, j < 0 ∨ 40 ≤ j → (zso old D ro n A c).1 j = old j) := by
  have hDc : zsm D c = A := by
    rw [← hDs, show 40 = c + (40 - c) by omega, zsm_z' _ (fun n a e => hDz n (by omega) (by omega))]
  have hqz : ∀ j : Int, c ≤ j → j < 40 → D j * n / A = 0 := fun j a e => by rw [hDz j a e, Int.zero_mul, Int.zero_ediv]
  have hqs : zsm (fun j => D j * n / A) 40 = zsm (fun j => D j * n / A) c := by
    rw [show 40 = c + (40 - c) by omega, zsm_z' (G := fun j => D j * n / A) _ (fun j a e => hqz j (by omega) (by omega))]
  have hlf := zlf (D := D) (n := n) (A := A) (c := c) (fun j a e => hDb j a (by omega)) hn.1 hA0 hDc
  obtain ⟨N, hN⟩ := Int.eq_ofNat_of_zero_le hlf.1
  have e1 : zso old D ro n A c = zgv c (zqm old D n A 40, zqr ro D n A 40) N := by
    unfold zso
    rw [hqs, hN]
    rfl
  have e2 : zsr old' D ro' n A c = zgv c (zqm old' D n A c, zqr ro' D n A c) N := by
    unfold zsr
    rw [hN]
    rfl
  have hnn : ∀ j : Int, 0 ≤ j → j < 40 → 0 ≤ (zso old D ro n A c).1 j := fun j a e => by
    rw [e1]
    refine zgv_z (s := (zqm old D n A 40, zqr ro D n A 40)) (fun j a e => ?_) ⟨hlf.2.2, hc⟩ N j a e
    show 0 ≤ zqm old D n A 40 j
    unfold zqm
    rw [if_pos ⟨a, e⟩]
    exact (zqd_b (hDb j a e) hn hA0).2.1.1
  have hsum : zsm (zso old D ro n A c).1 40 = n := by
    rw [e1, zgv_sum ⟨hlf.2.2, hc⟩]
    show zsm (zqm old D n A 40) 40 + N = n
    rw [show zsm (zqm old D n A 40) 40 = zsm (fun j => D j * n / A) 40 from zsm_c 40 (fun i hi => if_pos (by omega)), hqs]
    omega
  refine ⟨fun j a e => ?_, fun j a e => ?_, fun j a e => ?_, hsum, fun j hj => ?_⟩
  · obtain ⟨i, rfl⟩ := Int.eq_ofNat_of_zero_le a
    rw [e1, e2]
    refine (zgv_c hlf.2.2 (fun i hi => ⟨?_, ?_⟩) N i (by omega)).1
    · show zqm old D n A 40 i = zqm old' D n A c i
      unfold zqm
      rw [if_pos (by omega), if_pos (by omega)]
    · show zqr ro D n A 40 i = zqr ro' D n A c i
      unfold zqr
      rw [if_pos (by omega), if_pos (by omega)]
  · rw [e1, (zgv_o hlf.2.2 N j (Or.inr a)).1]
    show zqm old D n A 40 j = 0
    unfold zqm
    rw [if_pos (by omega)]
    exact hqz j a e
  · refine ⟨hnn j a e, ?_⟩
    have := zsm_el (G := (zso old D ro n A c).1) 40 (fun k x y => hnn k x (by omega)) j a (by omega)
    omega
  · rw [e1, (zgv_o hlf.2.2 N j (by omega)).1]
    show zqm old D n A 40 j = old j
    unfold zqm
    rw [if_neg (by omega)]
theorem zgr_z {D old : Int → Int} {n A : Int} {c : Nat} (m : Int) (hz : ∀ j, zr (old j)) (hDb : ∀ j : Int, 0 ≤ j → j < m → 0 ≤ D j ∧ D j ≤ 9999) (hn : 0 ≤ n ∧ n ≤ 9999) (hA0 : 0 < A ∧ A ≤ 399960) (Q : Int → Int) : ∀ q : Nat, ∀ j, zr ((zgv c (Q, zqr old D n A m) q).2 j) := by
  intro q
  induction q with
  | zero =>
    intro j
    show zr (zqr old D n A m j)
    unfold zqr
    split
    · rename_i w
      have := (zqd_b (hDb j w.1 w.2) hn hA0.1).2.2
      unfold zr
      omega
    · exact hz j
  | succ q ih =>
    intro j
    rw [zgv]
    exact zr_ui ih (by decide) j
theorem zgq_z {D old : Int → Int} {n A : Int} {c : Nat} (m : Int) (hz : ∀ j, zr (old j)) (hDb : ∀ j : Int, 0 ≤ j → j < m → 0 ≤ D j ∧ D j ≤ 9999) (hn : 0 ≤ n ∧ n ≤ 9999) (hA0 : 0 < A) (hc : 0 < c ∧ (c : Int) ≤ m) (r : Int → Int) : ∀ q : Nat, q ≤ 40 → ∀ j, zr ((zgv c (zqm old D n A m, r) q).1 j) := by
  have h : ∀ q : Nat, q ≤ 40 → ∀ j : Int, 0 ≤ j → j < c → 0 ≤ (zgv c (zqm old D n A m, r) q).1 j ∧ (zgv c (zqm old D n A m, r) q).1 j ≤ 99980001 + q := by
    intro q
    induction q with
    | zero =>
      intro _ j a e
      show 0 ≤ zqm old D n A m j ∧ zqm old D n A m j ≤ 99980001 + ((0 : Nat) : Int)
      unfold zqm
      rw [if_pos (by omega)]
      have := (zqd_b (hDb j a (by omega)) hn hA0).2.1
      omega
    | succ q ih =>
      intro hq j a e
      have hb : zbi (zgv c (zqm old D n A m, r) q).2 c < c := by
        obtain ⟨p, rfl⟩ : ∃ p, c = p + 1 := ⟨c - 1, by omega⟩
        exact zbi_lt p
      rw [zgv]
      show 0 ≤ zui _ _ _ j ∧ zui _ _ _ j ≤ _
      by_cases w : j = (zbi (zgv c (zqm old D n A m, r) q).2 c : Nat)
      · rw [w, zui_eq]
        have := ih (by omega) (zbi (zgv c (zqm old D n A m, r) q).2 c : Nat) (by omega) (by omega)
        omega
      · rw [zui_ne w]
        have := ih (by omega) j a e
        omega
  intro q hq j
  by_cases w : 0 ≤ j ∧ j < c
  · have := h q hq j w.1 w.2
    unfold zr
    omega
  · rw [(zgv_o hc.1 q j (by omega)).1]
    show zr (zqm old D n A m j)
    unfold zqm
    split
    · rename_i x
      have := (zqd_b (hDb j x.1 x.2) hn hA0).2.1
      unfold zr
      omega
    · exact hz j
section SCALE
variable {d b : Nat} {z : Nat × Nat} {σ : Nat → Nat → Int} {α lo : Nat → Int → Int} {φ : Nat → Int → UInt32}
theorem zQR_lo {lo' : Nat → Int → Int} (H : zQR σ α lo) (h3 : lo' 3 = lo 3) (h67 : lo' 67 = lo 67) : zQR σ α lo' := by
  obtain ⟨h1, h2, a3, h4, h5, h6, h7, h8, h9⟩ := H
  refine ⟨zRH_t h1 rfl (fun _ _ _ _ => rfl) (fun _ _ _ => rfl) h3, fun h => zRH_t (h2 h) rfl (fun _ _ _ _ => rfl) (fun _ _ _ => rfl) h67, a3, h4, h5, h6, h7, ?_, ?_⟩
  · rw [h3]; exact h8
  · rw [h67]; exact h9
theorem oX_scale {x n : Int} (H : zQR σ α lo) (hx : zr x) (hn' : zr n) : zOK d b kX11_scale kX12_scale [.int (zI x), .int (zI n)] σ α lo φ := by
  obtain ⟨c0, c1, c2, c3, c4, c5⟩ := zQ_cnt H
  have hz := zQR_rng H
  by_cases h : 0 ≤ x ∧ x ≤ 15
  · obtain ⟨k, rfl⟩ := Int.eq_ofNat_of_zero_le h.1
    have k22 : k < 22 := by omega
    by_cases hn : 0 ≤ n ∧ n ≤ 9999
    · obtain ⟨k1, k2, k3, k4⟩ := zmx_k k22
      have hm := zQR_mix H k22
      have hA := zRD_A hm
      obtain ⟨r1, r2, r3, r4⟩ := zQR_mix H k22
      have hall := fun (d : Nat) (z : Nat × Nat) => tX12_all (d := d) (b := b) (z := z) (σ := σ) (lo := lo) (φ := φ) (c := k) hm k22 c0 c3
      obtain ⟨c, hcc⟩ := Int.eq_ofNat_of_zero_le c3.1
      obtain ⟨D, hD⟩ : ∃ D, D = α (8 + 13 + 2 * k + 1) := ⟨_, rfl⟩
      obtain ⟨A, hAe⟩ : ∃ A, A = σ (8 + 13 + 2 * k) 1 := ⟨_, rfl⟩
      rw [← hD] at r1 r2 r3 r4 hm
      rw [← hAe] at r4 hA hall hm
      rw [hcc] at r1 r3
      have hc40 : c ≤ 40 := by omega
      have c0' : α 166 0 = c := by omega
      by_cases hA0 : 0 < A
      · have hDc : zsm D c = A := by
          rw [r4, show 40 = c + (40 - c) by omega, zsm_z' _ (fun n a e => r3 n (by omega) (by omega))]
        obtain ⟨s1, s2, s3, s4, s5⟩ := zso_ok (D := D) (old := D) (ro := α 142) (old' := α 171) (ro' := lo 173) (n := n) (A := A) (c := c) r2 r3 r4.symm hA0 hn hc40
        have hcl := fun (d : Nat) (z : Nat × Nat) => tX2_shareOut (d := d) (b := b) (z := z) (σ := σ) (α := α) (lo := lo) (φ := φ) (K := 8 + 13 + 2 * k) (T := 8 + 13 + 2 * k) (c := c) (n := n) (A := A) (D := D) (zmx_k k22) (zmx_k k22) (by omega) (by omega) (Or.inl rfl) hAe.symm hA0 hA.2 hD.symm r2 r3 r4.symm hc40 hn hz
        rw [← hD, ← hAe, show A - zsm D 40 + n = n by omega] at hcl
        obtain ⟨Q, hQ⟩ : ∃ Q, Q = (zso D D (α 142) n A c).1 := ⟨_, rfl⟩
        obtain ⟨E, hE⟩ : ∃ E, E = (zso D D (α 142) n A c).2 := ⟨_, rfl⟩
        rw [← hQ] at hcl s1 s2 s3 s4 s5
        rw [← hE] at hcl
        obtain ⟨σ1, hσ1⟩ : ∃ σ1, σ1 = zus σ (8 + 13 + 2 * k) 1 n := ⟨_, rfl⟩
        obtain ⟨α1, hα1⟩ : ∃ α1, α1 = zup (zup α (8 + 13 + 2 * k + 1) Q) 142 E := ⟨_, rfl⟩
        rw [← hσ1, ← hα1] at hcl
        have e166 : α1 166 = α 166 := by rw [hα1, zup_ne (by decide), zup_ne (by omega)]
        have e171 : α1 171 = α 171 := by rw [hα1, zup_ne (by decide), zup_ne (by omega)]
        have eK : α1 (8 + 13 + 2 * k + 1) = Q := by rw [hα1, zup_ne (by omega), zup_eq]
        have hzQ : ∀ j, zr (Q j) := fun j => by
          by_cases w : 0 ≤ j ∧ j < 40
          · have := s3 j w.1 w.2
            unfold zr
            omega
          · rw [s5 j (by omega), hD]
            exact hz _ _
        have hzE : ∀ j, zr (E j) := by
          rw [hE]
          exact zgr_z (40 : Int) (hz 142) r2 hn ⟨hA0, hA.2⟩ _ _
        have hz1 : ∀ k j, zr (α1 k j) := by rw [hα1]; exact zr_up (zr_up hz hzQ) hzE
        have hnw := fun (d : Nat) (z : Nat × Nat) => tX3_notesWithDrops (d := d) (b := b) (z := z) (σ := σ1) (α := α1) (lo := lo) (φ := φ) (k := 8 + 13 + 2 * k) (zmx_k k22) hz1
        rw [eK] at hnw
        have hmA : zRD (α1 166) (σ 2 5) k D A := by rw [e166]; exact hm
        have hall1 := fun (d : Nat) (z : Nat × Nat) => tX12_all (d := d) (b := b) (z := z) (σ := σ1) (α := α1) (lo := lo) (φ := φ) (c := k) hmA k22 (by rw [e166]; exact c0) c3
        have hsh := fun (d : Nat) (z : Nat × Nat) => tX12_shares (d := d) (b := b) (z := z) (σ := σ1) (α := α1) (lo := lo) (φ := φ) (p := 0) (n := n) (k := k) (A := A) (c := c) (D := D) (Or.inl rfl) (fun _ => hall1) (fun e => absurd e (by decide)) (fun _ => ⟨by omega, fun j a e => by rw [e166]; exact (r1 j a e).symm⟩) (fun e => absurd e (by decide)) (by rw [e166]; exact c0') hc40 hA0 hA.2 (fun j a e => r2 j a (by omega)) hDc hn
        rw [e171] at hsh
        obtain ⟨O, hO⟩ : ∃ O, O = (zsr (α 171) D (lo 173) n A c).1 := ⟨_, rfl⟩
        obtain ⟨W, hW⟩ : ∃ W, W = (zsr (α 171) D (lo 173) n A c).2 := ⟨_, rfl⟩
        rw [← hO] at s1
        rw [← hO, ← hW] at hsh
        obtain ⟨α2, hα2⟩ : ∃ α2, α2 = zup α1 171 O := ⟨_, rfl⟩
        rw [← hα2] at hsh
        have f166 : α2 166 = α 166 := by rw [hα2, zup_ne (by decide), e166]
        have f171 : ∀ X, zup α2 166 X 171 = O := fun X => by rw [zup_ne (by decide), hα2, zup_eq]
        obtain ⟨R, hR⟩ : ∃ R, R = zcp O (α 166) 0 (450 + 40 * (k : Int)) c := ⟨_, rfl⟩
        have hrd : zRD R (σ 2 5) k Q n := by
          refine ⟨fun j a e => ?_, fun j a e => ?_, fun j a e => ?_, s4.symm⟩
          · rw [hR, zcp_at (by omega), s1 j a (by omega)]
            congr 1
            omega
          · have := s3 j a e
            omega
          · exact s2 j (by omega) e
        have hzO : ∀ j, zr (O j) := by
          have hlf := zlf (D := D) (n := n) (A := A) (c := c) (fun j a e => r2 j a (by omega)) hn.1 hA0 hDc
          rw [hO]
          exact zgq_z (c : Int) (hz 171) (fun j a e => r2 j a (by omega)) hn hA0 ⟨hlf.2.2, Int.le_refl _⟩ _ _ (by omega)
        have hzR : ∀ j, zr (R j) := by rw [hR]; exact zr_cp hzO (hz 166)
        have hfew := fun (d : Nat) (z : Nat × Nat) => tX12_few (d := d) (b := b) (z := z) (σ := σ1) (α := zup α2 166 R) (lo := zup lo 173 W) (φ := φ) (c := k) (ci := σ 2 5) (A := n) (D := Q) (k := k) (by rw [zup_eq]; exact hrd) k22 (by rw [zup_eq, hR, zcp_ne (by omega), c0]) c3 (by rw [zup_eq]; exact hzR)
        have hbw := zsm_r (G := fun n => if 0 < Q n then (1 : Int) else 0) (m := 1) (by decide) 40 (fun k _ _ => by
          show 0 ≤ (if 0 < Q k then (1 : Int) else 0) ∧ (if 0 < Q k then (1 : Int) else 0) ≤ 1
          split <;> decide)
        refine ⟨.int (zI (zsm (fun n => if 0 < Q n then 1 else 0) 40)), σ1, α1, lo, φ, σ1, zup α2 166 R, zup lo 173 W, φ, fun z => ?_, fun z => ?_, ?_⟩
        · rw [qX11_scale rfl]
          repeat' (first | rfl | (exfalso; first | omega | contradiction) | split | (rw [zruns_N 400]; simp (disch := first | assumption | omega | decide | ((simp (disch := omega) only [zup_ne, zup_eq]); first | assumption | omega)) only [sX11_scale_0, sX11_scale_1, sX11_scale_4, sX11_scale_7, sX11_scale_8, sX11_scale_9, sX11_scale_10, sX11_scale_11, sX11_scale_14, sX11_scale_17, sX11_scale_20, sX11_scale_22, sX11_scale_23, sX11_scale_24, sX11_scale_27, sX11_scale_30, sX11_scale_31, sX11_scale_32, sX11_scale_33, sX11_scale_34, sX11_scale_37, sX11_scale_38, sX11_scale_39, sX11_scale_40, sX11_scale_43, sX11_scale_46, sX11_scale_47, sX11_scale_50, sX11_scale_53, sX11_scale_55, zkp_i, zkp_a, zkp_f, zkp_l, zkp_d, zkp_n, ycl_eq, zI_add, zI_sub, zI_mul, zI_neg, zI_inj, zI_lt, zI_le, zI_eq0, zI_lt0, zI_gt0, zI_le0, zI_ge0, yil_ok, yll_ok, yfl_ok, yis_ok, yls_ok, yfs_ok, y0_s, y1_s, ybo_ok, zset_w, zruns_if, zui_eq, zus_eq, zup_eq, Int.reduceAdd, Int.reduceSub, Int.reduceMul, Int.reduceNeg, Int.reduceLT, Int.reduceLE, Int.reduceEq, if_true, if_false, not_true_eq_false, not_false_eq_true, zw_0, zp_0_2, zw_1, zw_2, zp_2_5, zw_3, zp_3, zw_4, zp_4, zw_5, zp_5, zw_6, zp_6, zw_7, zp_7, zw_8, zw_9, zp_9_5, zw_10, zp_10, zw_11, zp_11, zw_12, zp_12, zw_13, zp_13, zw_14, zp_14, zw_15, zp_15_5, zw_16, zp_16, zw_17, zp_17, zw_18, zp_18, zw_19, zp_19, zw_20, zp_20, zw_65, zw_66, zp_66_5, zw_67, zp_67, zw_68, zp_68, zw_69, zp_69, zw_70, zp_70, zw_71, zp_71, zw_72, zw_73, zp_73_5, zw_74, zp_74, zw_75, zp_75, zw_76, zp_76, zw_77, zp_77, zw_78, zp_78, zw_79, zp_79_5, zw_80, zp_80, zw_81, zp_81, zw_82, zp_82, zw_83, zp_83, zw_84, zp_84, zw_129, zp_129_1, zw_130, zp_130, zw_131, zp_131_1, zw_132, zp_132, zw_133, zp_133_5, zp_133_6, zp_133_7, zw_134, zp_134, zw_135, zp_135, zw_136, zp_136, zw_137, zw_138, zp_138_1, zw_139, zp_139, zw_140, zp_140_1, zw_141, zp_141, zw_142, zp_142, zw_143, zw_144, zp_144_1, zw_145, zp_145, zw_146, zp_146_4, zw_147, zp_147, zw_148, zp_148, zw_149, zp_149, zw_150, zp_150, zw_151, zw_152, zp_152, zw_153, zp_153_1, zp_153_2, zp_153_3, zw_154, zp_154, zw_155, zp_155_1, zp_155_2, zp_155_3, zw_156, zp_156, zw_157, zp_157_1, zp_157_2, zp_157_3, zw_158, zp_158, zw_159, zp_159_1, zp_159_2, zp_159_3, zw_160, zp_160, zw_161, zp_161_1, zp_161_2, zp_161_3, zw_162, zp_162, zw_163, zp_163_1, zp_163_2, zp_163_3, zw_164, zp_164, yg0_0, yg0_1, yg0_2, yg0_3, yg0_4, yg1_0, yg1_1, yg1_2, yg1_3, yg2_0, yg2_1, yg2_2, yg3_0, yg3_1, yg4_0, yg5_0, yg5_1, yg5_2, yg5_3, yg5_4, yg5_5, yg6_0, yg6_1, yg6_2, yg6_3, yg6_4, yg6_5, yg7_0, yg7_1, yg7_2, yg7_3, yg7_4, yg7_5, yg7_6, yg7_7, yg8_0, yg8_1, yg8_2, yg8_3, yg9_0, yg9_1, yg9_2, yg9_3, yg9_4, yg9_5, yg10_0, yg10_1, yg11_0, yg11_1, yg11_2, yg11_3, yg11_4, yg11_5, yg11_6, yg11_7, yg11_8, yg11_9, yg11_10, yp0_0, yp0_1, yp0_2, yp0_3, yp0_4, yp1_0, yp1_1, yp1_2, yp1_3, yp2_0, yp2_1, yp2_2, yp3_0, yp3_1, yp4_0, yp5_0, yp5_1, yp5_2, yp5_3, yp5_4, yp5_5, yp6_0, yp6_1, yp6_2, yp6_3, yp6_4, yp6_5, yp7_0, yp7_1, yp7_2, yp7_3, yp7_4, yp7_5, yp7_6, yp7_7, yp8_0, yp8_1, yp8_2, yp8_3, yp9_0, yp9_1, yp9_2, yp9_3, yp9_4, yp9_5, yp10_0, yp10_1, yp11_0, yp11_1, yp11_2, yp11_3, yp11_4, yp11_5, yp11_6, yp11_7, yp11_8, yp11_9, yp11_10, tX11_isBlend, tX11_isWithin, yal_m (k := 8) (n := 22) (j := k) rfl k22 (by decide), zw_o3 k1 k3, hcl, hnw]))
        · rw [qX12_scale rfl]
          rw [zruns_N 400]
          simp (disch := first | assumption | omega | decide | ((simp (disch := omega) only [zup_ne, zup_eq]); first | assumption | omega)) only [sX12_scale_0, sX12_scale_1, sX12_scale_4, zkp_i, zkp_a, zkp_f, zkp_l, zkp_d, zkp_n, ycl_eq, zI_add, zI_sub, zI_mul, zI_neg, zI_inj, zI_lt, zI_le, zI_eq0, zI_lt0, zI_gt0, zI_le0, zI_ge0, yil_ok, yll_ok, yfl_ok, yis_ok, yls_ok, yfs_ok, y0_s, y1_s, ybo_ok, zset_w, zruns_if, zui_eq, zus_eq, zup_eq, Int.reduceAdd, Int.reduceSub, Int.reduceMul, Int.reduceNeg, Int.reduceLT, Int.reduceLE, Int.reduceEq, if_true, if_false, not_true_eq_false, not_false_eq_true, zw_165, zp_165_2, zp_165_9, zp_165_10, zp_165_11, zp_165_12, zp_165_13, zp_165_14, zw_166, zp_166, zw_167, zp_167, zw_168, zp_168, zw_169, zp_169, zw_170, zp_170, zw_171, zp_171, zw_172, zp_172, zw_173, zp_173, zw_174, zp_174, zw_175, zp_175, zw_176, zp_176, zw_177, zp_177, zw_178, zp_178, zw_179, zp_179, yg12_0, yg12_1, yg12_2, yg12_3, yg12_4, yg12_5, yg12_6, yg12_7, yg12_8, yg12_9, yg12_10, yg12_11, yg12_12, yg12_13, yg12_14, yg12_15, yg12_16, yg12_17, yg12_18, yg12_19, yg12_20, yp12_0, yp12_1, yp12_2, yp12_3, yp12_4, yp12_5, yp12_6, yp12_7, yp12_8, yp12_9, yp12_10, yp12_11, yp12_12, yp12_13, yp12_14, yp12_15, yp12_16, yp12_17, yp12_18, yp12_19, yp12_20, tX12_isBlend, if_pos h]
          rw [zruns_N 400]
          simp (disch := first | assumption | omega | decide | ((simp (disch := omega) only [zup_ne, zup_eq]); first | assumption | omega)) only [sX12_scale_9, sX12_scale_10, sX12_scale_11, sX12_scale_14, sX12_scale_17, zkp_i, zkp_a, zkp_f, zkp_l, zkp_d, zkp_n, ycl_eq, zI_add, zI_sub, zI_mul, zI_neg, zI_inj, zI_lt, zI_le, zI_eq0, zI_lt0, zI_gt0, zI_le0, zI_ge0, yil_ok, yll_ok, yfl_ok, yis_ok, yls_ok, yfs_ok, y0_s, y1_s, ybo_ok, zset_w, zruns_if, zui_eq, zus_eq, zup_eq, Int.reduceAdd, Int.reduceSub, Int.reduceMul, Int.reduceNeg, Int.reduceLT, Int.reduceLE, Int.reduceEq, if_true, if_false, not_true_eq_false, not_false_eq_true, zw_165, zp_165_2, zp_165_9, zp_165_10, zp_165_11, zp_165_12, zp_165_13, zp_165_14, zw_166, zp_166, zw_167, zp_167, zw_168, zp_168, zw_169, zp_169, zw_170, zp_170, zw_171, zp_171, zw_172, zp_172, zw_173, zp_173, zw_174, zp_174, zw_175, zp_175, zw_176, zp_176, zw_177, zp_177, zw_178, zp_178, zw_179, zp_179, yg12_0, yg12_1, yg12_2, yg12_3, yg12_4, yg12_5, yg12_6, yg12_7, yg12_8, yg12_9, yg12_10, yg12_11, yg12_12, yg12_13, yg12_14, yg12_15, yg12_16, yg12_17, yg12_18, yg12_19, yg12_20, yp12_0, yp12_1, yp12_2, yp12_3, yp12_4, yp12_5, yp12_6, yp12_7, yp12_8, yp12_9, yp12_10, yp12_11, yp12_12, yp12_13, yp12_14, yp12_15, yp12_16, yp12_17, yp12_18, yp12_19, yp12_20, tX12_isIn, if_pos hn]
          rw [zruns_N 400]
          simp (disch := first | assumption | omega | decide | ((simp (disch := omega) only [zup_ne, zup_eq]); first | assumption | omega)) only [sX12_scale_23, sX12_scale_24, sX12_scale_25, sX12_scale_26, sX12_scale_27, sX12_scale_30, zkp_i, zkp_a, zkp_f, zkp_l, zkp_d, zkp_n, ycl_eq, zI_add, zI_sub, zI_mul, zI_neg, zI_inj, zI_lt, zI_le, zI_eq0, zI_lt0, zI_gt0, zI_le0, zI_ge0, yil_ok, yll_ok, yfl_ok, yis_ok, yls_ok, yfs_ok, y0_s, y1_s, ybo_ok, zset_w, zruns_if, zui_eq, zus_eq, zup_eq, Int.reduceAdd, Int.reduceSub, Int.reduceMul, Int.reduceNeg, Int.reduceLT, Int.reduceLE, Int.reduceEq, if_true, if_false, not_true_eq_false, not_false_eq_true, zw_165, zp_165_2, zp_165_9, zp_165_10, zp_165_11, zp_165_12, zp_165_13, zp_165_14, zw_166, zp_166, zw_167, zp_167, zw_168, zp_168, zw_169, zp_169, zw_170, zp_170, zw_171, zp_171, zw_172, zp_172, zw_173, zp_173, zw_174, zp_174, zw_175, zp_175, zw_176, zp_176, zw_177, zp_177, zw_178, zp_178, zw_179, zp_179, yg12_0, yg12_1, yg12_2, yg12_3, yg12_4, yg12_5, yg12_6, yg12_7, yg12_8, yg12_9, yg12_10, yg12_11, yg12_12, yg12_13, yg12_14, yg12_15, yg12_16, yg12_17, yg12_18, yg12_19, yg12_20, yp12_0, yp12_1, yp12_2, yp12_3, yp12_4, yp12_5, yp12_6, yp12_7, yp12_8, yp12_9, yp12_10, yp12_11, yp12_12, yp12_13, yp12_14, yp12_15, yp12_16, yp12_17, yp12_18, yp12_19, yp12_20, hsh]
          rw [zruns_N 400]
          simp (disch := first | assumption | omega | decide | ((simp (disch := omega) only [zup_ne, zup_eq]); first | assumption | omega)) only [sX12_scale_36, sX12_scale_37, zkp_i, zkp_a, zkp_f, zkp_l, zkp_d, zkp_n, ycl_eq, zI_add, zI_sub, zI_mul, zI_neg, zI_inj, zI_lt, zI_le, zI_eq0, zI_lt0, zI_gt0, zI_le0, zI_ge0, yil_ok, yll_ok, yfl_ok, yis_ok, yls_ok, yfs_ok, y0_s, y1_s, ybo_ok, zset_w, zruns_if, zui_eq, zus_eq, zup_eq, Int.reduceAdd, Int.reduceSub, Int.reduceMul, Int.reduceNeg, Int.reduceLT, Int.reduceLE, Int.reduceEq, if_true, if_false, not_true_eq_false, not_false_eq_true, zw_165, zp_165_2, zp_165_9, zp_165_10, zp_165_11, zp_165_12, zp_165_13, zp_165_14, zw_166, zp_166, zw_167, zp_167, zw_168, zp_168, zw_169, zp_169, zw_170, zp_170, zw_171, zp_171, zw_172, zp_172, zw_173, zp_173, zw_174, zp_174, zw_175, zp_175, zw_176, zp_176, zw_177, zp_177, zw_178, zp_178, zw_179, zp_179, yg12_0, yg12_1, yg12_2, yg12_3, yg12_4, yg12_5, yg12_6, yg12_7, yg12_8, yg12_9, yg12_10, yg12_11, yg12_12, yg12_13, yg12_14, yg12_15, yg12_16, yg12_17, yg12_18, yg12_19, yg12_20, yp12_0, yp12_1, yp12_2, yp12_3, yp12_4, yp12_5, yp12_6, yp12_7, yp12_8, yp12_9, yp12_10, yp12_11, yp12_12, yp12_13, yp12_14, yp12_15, yp12_16, yp12_17, yp12_18, yp12_19, yp12_20]
          rw [← zruns_N]
          conv => lhs; rw [zup_id' (α := α2) (k := 166) (X := zcp O (α 166) 0 (450 + 40 * (k : Int)) ((0 : Nat) : Int)) (by rw [zcp_0', f166])]
          refine zloop (run := zruns (zcall (d + 19)) 12 1 cX12_scale) (fun i => (38, [some (.ref (b + 165)), some (.int (zI k)), some (.int (zI n)), some (.int (zI i))], [], (z, zw b σ1 (zup α2 166 (zcp O (α 166) 0 (450 + 40 * (k : Int)) i)) (zup lo 173 W) φ))) c (fun i hi => ?_) ?_
          · have e0 : zcp O (α 166) 0 (450 + 40 * (k : Int)) i 0 = c := by rw [zcp_ne (by omega), c0']
            repeat' (first | rfl | (exfalso; first | omega | contradiction) | split | (rw [zruns_N 400]; simp (disch := first | assumption | omega | decide | ((simp (disch := omega) only [zup_ne, zup_eq]); first | assumption | omega)) only [sX12_scale_38, sX12_scale_39, sX12_scale_40, sX12_scale_43, sX12_scale_44, sX12_scale_45, sX12_scale_48, sX12_scale_49, sX12_scale_52, sX12_scale_55, sX12_scale_57, sX12_scale_58, sX12_scale_59, sX12_scale_60, sX12_scale_61, sX12_scale_62, sX12_scale_63, sX12_scale_66, sX12_scale_67, sX12_scale_68, sX12_scale_69, sX12_scale_72, zkp_i, zkp_a, zkp_f, zkp_l, zkp_d, zkp_n, ycl_eq, zI_add, zI_sub, zI_mul, zI_neg, zI_inj, zI_lt, zI_le, zI_eq0, zI_lt0, zI_gt0, zI_le0, zI_ge0, yil_ok, yll_ok, yfl_ok, yis_ok, yls_ok, yfs_ok, y0_s, y1_s, ybo_ok, zset_w, zruns_if, zui_eq, zus_eq, zup_eq, Int.reduceAdd, Int.reduceSub, Int.reduceMul, Int.reduceNeg, Int.reduceLT, Int.reduceLE, Int.reduceEq, if_true, if_false, not_true_eq_false, not_false_eq_true, zw_165, zp_165_2, zp_165_9, zp_165_10, zp_165_11, zp_165_12, zp_165_13, zp_165_14, zw_166, zp_166, zw_167, zp_167, zw_168, zp_168, zw_169, zp_169, zw_170, zp_170, zw_171, zp_171, zw_172, zp_172, zw_173, zp_173, zw_174, zp_174, zw_175, zp_175, zw_176, zp_176, zw_177, zp_177, zw_178, zp_178, zw_179, zp_179, yg12_0, yg12_1, yg12_2, yg12_3, yg12_4, yg12_5, yg12_6, yg12_7, yg12_8, yg12_9, yg12_10, yg12_11, yg12_12, yg12_13, yg12_14, yg12_15, yg12_16, yg12_17, yg12_18, yg12_19, yg12_20, yp12_0, yp12_1, yp12_2, yp12_3, yp12_4, yp12_5, yp12_6, yp12_7, yp12_8, yp12_9, yp12_10, yp12_11, yp12_12, yp12_13, yp12_14, yp12_15, yp12_16, yp12_17, yp12_18, yp12_19, yp12_20, e0, f171, zcp_s1, zup_up]))
          · rw [← hR]
            have e0 : R 0 = c := by rw [hR, zcp_ne (by omega), c0']
            repeat' (first | rfl | (exfalso; first | omega | contradiction) | split | (rw [zruns_N 400]; simp (disch := first | assumption | omega | decide | ((simp (disch := omega) only [zup_ne, zup_eq]); first | assumption | omega)) only [sX12_scale_38, sX12_scale_39, sX12_scale_40, sX12_scale_43, sX12_scale_44, sX12_scale_45, sX12_scale_48, sX12_scale_49, sX12_scale_52, sX12_scale_55, sX12_scale_57, sX12_scale_58, sX12_scale_59, sX12_scale_60, sX12_scale_61, sX12_scale_62, sX12_scale_63, sX12_scale_66, sX12_scale_67, sX12_scale_68, sX12_scale_69, sX12_scale_72, sX12_scale_75, sX12_scale_76, sX12_scale_77, sX12_scale_80, zkp_i, zkp_a, zkp_f, zkp_l, zkp_d, zkp_n, ycl_eq, zI_add, zI_sub, zI_mul, zI_neg, zI_inj, zI_lt, zI_le, zI_eq0, zI_lt0, zI_gt0, zI_le0, zI_ge0, yil_ok, yll_ok, yfl_ok, yis_ok, yls_ok, yfs_ok, y0_s, y1_s, ybo_ok, zset_w, zruns_if, zui_eq, zus_eq, zup_eq, Int.reduceAdd, Int.reduceSub, Int.reduceMul, Int.reduceNeg, Int.reduceLT, Int.reduceLE, Int.reduceEq, if_true, if_false, not_true_eq_false, not_false_eq_true, zw_165, zp_165_2, zp_165_9, zp_165_10, zp_165_11, zp_165_12, zp_165_13, zp_165_14, zw_166, zp_166, zw_167, zp_167, zw_168, zp_168, zw_169, zp_169, zw_170, zp_170, zw_171, zp_171, zw_172, zp_172, zw_173, zp_173, zw_174, zp_174, zw_175, zp_175, zw_176, zp_176, zw_177, zp_177, zw_178, zp_178, zw_179, zp_179, yg12_0, yg12_1, yg12_2, yg12_3, yg12_4, yg12_5, yg12_6, yg12_7, yg12_8, yg12_9, yg12_10, yg12_11, yg12_12, yg12_13, yg12_14, yg12_15, yg12_16, yg12_17, yg12_18, yg12_19, yg12_20, yp12_0, yp12_1, yp12_2, yp12_3, yp12_4, yp12_5, yp12_6, yp12_7, yp12_8, yp12_9, yp12_10, yp12_11, yp12_12, yp12_13, yp12_14, yp12_15, yp12_16, yp12_17, yp12_18, yp12_19, yp12_20, e0, hfew]))
        · have hfin : zup α2 166 R = zup (zup (zup (zup α 142 E) 171 O) (8 + 13 + 2 * k + 1) Q) 166 R := by
            rw [hα2, hα1, zup_c1 (i := 8 + 13 + 2 * k + 1) (j := 142) (by omega), zup_c1 (i := 8 + 13 + 2 * k + 1) (j := 171) (by omega)]
          rw [hfin, hσ1]
          have H1 : zQR σ (zup (zup α 142 E) 171 O) lo := zQR_s H (fun j hj => by unfold zfb at hj; rw [zup_ne (by omega), zup_ne (by omega)]) (fun _ _ _ => rfl) (zr_up (zr_up hz hzE) hzO)
          refine zQR_lo (zQR_D H1 k22 hrd (fun j hj => ?_) hzQ hzR) (zup_ne (by decide)) (zup_ne (by decide))
          rw [zup_ne (by decide), zup_ne (by decide), hR, zcp_ne (by omega)]
      · have eA0 : A = 0 := by omega
        rw [eA0] at hall hAe
        have hsh := fun (d : Nat) (z : Nat × Nat) => tX12_shares_0 (d := d) (b := b) (z := z) (σ := σ) (α := α) (lo := lo) (φ := φ) (p := 0) (n := n) (k := k) (Or.inl rfl) (fun _ => hall) (fun e => absurd e (by decide))
        have hcl : ∀ d z, zcall (d + 3) kX2_shareOut [.ref (b + 137), .ref (b + (8 + 13 + 2 * k)), .int (zI n), .ref (b + (8 + 13 + 2 * k))] (z, zw b σ α lo φ) = some (some (.int (zI 0)), (z, zw b σ α lo φ)) := fun d z => by
          rw [qX2_shareOut rfl]
          repeat' (first | rfl | (exfalso; first | omega | contradiction) | split | (rw [zruns_N 400]; simp (disch := first | assumption | omega | decide | ((simp (disch := omega) only [zup_ne, zup_eq]); first | assumption | omega)) only [sX2_shareOut_0, sX2_shareOut_1, sX2_shareOut_4, sX2_shareOut_6, sX2_shareOut_8, sX2_shareOut_11, sX2_shareOut_12, zkp_i, zkp_a, zkp_f, zkp_l, zkp_d, zkp_n, ycl_eq, zI_add, zI_sub, zI_mul, zI_neg, zI_inj, zI_lt, zI_le, zI_eq0, zI_lt0, zI_gt0, zI_le0, zI_ge0, yil_ok, yll_ok, yfl_ok, yis_ok, yls_ok, yfs_ok, y0_s, y1_s, ybo_ok, zset_w, zruns_if, zui_eq, zus_eq, zup_eq, Int.reduceAdd, Int.reduceSub, Int.reduceMul, Int.reduceNeg, Int.reduceLT, Int.reduceLE, Int.reduceEq, if_true, if_false, not_true_eq_false, not_false_eq_true, zw_0, zp_0_2, zw_1, zw_2, zp_2_5, zw_3, zp_3, zw_4, zp_4, zw_5, zp_5, zw_6, zp_6, zw_7, zp_7, zw_8, zw_9, zp_9_5, zw_10, zp_10, zw_11, zp_11, zw_12, zp_12, zw_13, zp_13, zw_14, zp_14, zw_15, zp_15_5, zw_16, zp_16, zw_17, zp_17, zw_18, zp_18, zw_19, zp_19, zw_20, zp_20, zw_65, zw_66, zp_66_5, zw_67, zp_67, zw_68, zp_68, zw_69, zp_69, zw_70, zp_70, zw_71, zp_71, zw_72, zw_73, zp_73_5, zw_74, zp_74, zw_75, zp_75, zw_76, zp_76, zw_77, zp_77, zw_78, zp_78, zw_79, zp_79_5, zw_80, zp_80, zw_81, zp_81, zw_82, zp_82, zw_83, zp_83, zw_84, zp_84, zw_129, zp_129_1, zw_130, zp_130, zw_131, zp_131_1, zw_132, zp_132, zw_133, zp_133_5, zp_133_6, zp_133_7, zw_134, zp_134, zw_135, zp_135, zw_136, zp_136, zw_137, zw_138, zp_138_1, zw_139, zp_139, zw_140, zp_140_1, zw_141, zp_141, zw_142, zp_142, zw_143, zw_144, zp_144_1, zw_145, zp_145, zw_146, zp_146_4, zw_147, zp_147, zw_148, zp_148, zw_149, zp_149, zw_150, zp_150, zw_151, zw_152, zp_152, zw_153, zp_153_1, zp_153_2, zp_153_3, zw_154, zp_154, zw_155, zp_155_1, zp_155_2, zp_155_3, zw_156, zp_156, zw_157, zp_157_1, zp_157_2, zp_157_3, zw_158, zp_158, zw_159, zp_159_1, zp_159_2, zp_159_3, zw_160, zp_160, zw_161, zp_161_1, zp_161_2, zp_161_3, zw_162, zp_162, zw_163, zp_163_1, zp_163_2, zp_163_3, zw_164, zp_164, yg0_0, yg0_1, yg0_2, yg0_3, yg0_4, yg1_0, yg1_1, yg1_2, yg1_3, yg2_0, yg2_1, yg2_2, yg3_0, yg3_1, yg4_0, yg5_0, yg5_1, yg5_2, yg5_3, yg5_4, yg5_5, yg6_0, yg6_1, yg6_2, yg6_3, yg6_4, yg6_5, yg7_0, yg7_1, yg7_2, yg7_3, yg7_4, yg7_5, yg7_6, yg7_7, yg8_0, yg8_1, yg8_2, yg8_3, yg9_0, yg9_1, yg9_2, yg9_3, yg9_4, yg9_5, yg10_0, yg10_1, yg11_0, yg11_1, yg11_2, yg11_3, yg11_4, yg11_5, yg11_6, yg11_7, yg11_8, yg11_9, yg11_10, yp0_0, yp0_1, yp0_2, yp0_3, yp0_4, yp1_0, yp1_1, yp1_2, yp1_3, yp2_0, yp2_1, yp2_2, yp3_0, yp3_1, yp4_0, yp5_0, yp5_1, yp5_2, yp5_3, yp5_4, yp5_5, yp6_0, yp6_1, yp6_2, yp6_3, yp6_4, yp6_5, yp7_0, yp7_1, yp7_2, yp7_3, yp7_4, yp7_5, yp7_6, yp7_7, yp8_0, yp8_1, yp8_2, yp8_3, yp9_0, yp9_1, yp9_2, yp9_3, yp9_4, yp9_5, yp10_0, yp10_1, yp11_0, yp11_1, yp11_2, yp11_3, yp11_4, yp11_5, yp11_6, yp11_7, yp11_8, yp11_9, yp11_10, zw_o3 k1 k3, hAe.symm]))
        refine zOK_r (.int (zI (-3))) H (fun z => ?_) (fun z => ?_)
        · rw [qX11_scale rfl]
          repeat' (first | rfl | (exfalso; first | omega | contradiction) | split | (rw [zruns_N 400]; simp (disch := first | assumption | omega | decide | ((simp (disch := omega) only [zup_ne, zup_eq]); first | assumption | omega)) only [sX11_scale_0, sX11_scale_1, sX11_scale_4, sX11_scale_7, sX11_scale_8, sX11_scale_9, sX11_scale_10, sX11_scale_11, sX11_scale_14, sX11_scale_17, sX11_scale_20, sX11_scale_22, sX11_scale_23, sX11_scale_24, sX11_scale_27, sX11_scale_30, sX11_scale_31, sX11_scale_32, sX11_scale_33, sX11_scale_34, sX11_scale_37, sX11_scale_38, sX11_scale_39, sX11_scale_40, sX11_scale_43, sX11_scale_46, sX11_scale_47, sX11_scale_50, sX11_scale_53, sX11_scale_55, zkp_i, zkp_a, zkp_f, zkp_l, zkp_d, zkp_n, ycl_eq, zI_add, zI_sub, zI_mul, zI_neg, zI_inj, zI_lt, zI_le, zI_eq0, zI_lt0, zI_gt0, zI_le0, zI_ge0, yil_ok, yll_ok, yfl_ok, yis_ok, yls_ok, yfs_ok, y0_s, y1_s, ybo_ok, zset_w, zruns_if, zui_eq, zus_eq, zup_eq, Int.reduceAdd, Int.reduceSub, Int.reduceMul, Int.reduceNeg, Int.reduceLT, Int.reduceLE, Int.reduceEq, if_true, if_false, not_true_eq_false, not_false_eq_true, zw_0, zp_0_2, zw_1, zw_2, zp_2_5, zw_3, zp_3, zw_4, zp_4, zw_5, zp_5, zw_6, zp_6, zw_7, zp_7, zw_8, zw_9, zp_9_5, zw_10, zp_10, zw_11, zp_11, zw_12, zp_12, zw_13, zp_13, zw_14, zp_14, zw_15, zp_15_5, zw_16, zp_16, zw_17, zp_17, zw_18, zp_18, zw_19, zp_19, zw_20, zp_20, zw_65, zw_66, zp_66_5, zw_67, zp_67, zw_68, zp_68, zw_69, zp_69, zw_70, zp_70, zw_71, zp_71, zw_72, zw_73, zp_73_5, zw_74, zp_74, zw_75, zp_75, zw_76, zp_76, zw_77, zp_77, zw_78, zp_78, zw_79, zp_79_5, zw_80, zp_80, zw_81, zp_81, zw_82, zp_82, zw_83, zp_83, zw_84, zp_84, zw_129, zp_129_1, zw_130, zp_130, zw_131, zp_131_1, zw_132, zp_132, zw_133, zp_133_5, zp_133_6, zp_133_7, zw_134, zp_134, zw_135, zp_135, zw_136, zp_136, zw_137, zw_138, zp_138_1, zw_139, zp_139, zw_140, zp_140_1, zw_141, zp_141, zw_142, zp_142, zw_143, zw_144, zp_144_1, zw_145, zp_145, zw_146, zp_146_4, zw_147, zp_147, zw_148, zp_148, zw_149, zp_149, zw_150, zp_150, zw_151, zw_152, zp_152, zw_153, zp_153_1, zp_153_2, zp_153_3, zw_154, zp_154, zw_155, zp_155_1, zp_155_2, zp_155_3, zw_156, zp_156, zw_157, zp_157_1, zp_157_2, zp_157_3, zw_158, zp_158, zw_159, zp_159_1, zp_159_2, zp_159_3, zw_160, zp_160, zw_161, zp_161_1, zp_161_2, zp_161_3, zw_162, zp_162, zw_163, zp_163_1, zp_163_2, zp_163_3, zw_164, zp_164, yg0_0, yg0_1, yg0_2, yg0_3, yg0_4, yg1_0, yg1_1, yg1_2, yg1_3, yg2_0, yg2_1, yg2_2, yg3_0, yg3_1, yg4_0, yg5_0, yg5_1, yg5_2, yg5_3, yg5_4, yg5_5, yg6_0, yg6_1, yg6_2, yg6_3, yg6_4, yg6_5, yg7_0, yg7_1, yg7_2, yg7_3, yg7_4, yg7_5, yg7_6, yg7_7, yg8_0, yg8_1, yg8_2, yg8_3, yg9_0, yg9_1, yg9_2, yg9_3, yg9_4, yg9_5, yg10_0, yg10_1, yg11_0, yg11_1, yg11_2, yg11_3, yg11_4, yg11_5, yg11_6, yg11_7, yg11_8, yg11_9, yg11_10, yp0_0, yp0_1, yp0_2, yp0_3, yp0_4, yp1_0, yp1_1, yp1_2, yp1_3, yp2_0, yp2_1, yp2_2, yp3_0, yp3_1, yp4_0, yp5_0, yp5_1, yp5_2, yp5_3, yp5_4, yp5_5, yp6_0, yp6_1, yp6_2, yp6_3, yp6_4, yp6_5, yp7_0, yp7_1, yp7_2, yp7_3, yp7_4, yp7_5, yp7_6, yp7_7, yp8_0, yp8_1, yp8_2, yp8_3, yp9_0, yp9_1, yp9_2, yp9_3, yp9_4, yp9_5, yp10_0, yp10_1, yp11_0, yp11_1, yp11_2, yp11_3, yp11_4, yp11_5, yp11_6, yp11_7, yp11_8, yp11_9, yp11_10, tX11_isBlend, tX11_isWithin, yal_m (k := 8) (n := 22) (j := k) rfl k22 (by decide), hcl]))
        · rw [qX12_scale rfl]
          repeat' (first | rfl | (exfalso; first | omega | contradiction) | split | (rw [zruns_N 400]; simp (disch := first | assumption | omega | decide | ((simp (disch := omega) only [zup_ne, zup_eq]); first | assumption | omega)) only [sX12_scale_0, sX12_scale_1, sX12_scale_4, sX12_scale_7, sX12_scale_8, sX12_scale_9, sX12_scale_10, sX12_scale_11, sX12_scale_14, sX12_scale_17, sX12_scale_20, sX12_scale_22, sX12_scale_23, sX12_scale_24, sX12_scale_25, sX12_scale_26, sX12_scale_27, sX12_scale_30, sX12_scale_33, sX12_scale_35, zkp_i, zkp_a, zkp_f, zkp_l, zkp_d, zkp_n, ycl_eq, zI_add, zI_sub, zI_mul, zI_neg, zI_inj, zI_lt, zI_le, zI_eq0, zI_lt0, zI_gt0, zI_le0, zI_ge0, yil_ok, yll_ok, yfl_ok, yis_ok, yls_ok, yfs_ok, y0_s, y1_s, ybo_ok, zset_w, zruns_if, zui_eq, zus_eq, zup_eq, Int.reduceAdd, Int.reduceSub, Int.reduceMul, Int.reduceNeg, Int.reduceLT, Int.reduceLE, Int.reduceEq, if_true, if_false, not_true_eq_false, not_false_eq_true, zw_165, zp_165_2, zp_165_9, zp_165_10, zp_165_11, zp_165_12, zp_165_13, zp_165_14, zw_166, zp_166, zw_167, zp_167, zw_168, zp_168, zw_169, zp_169, zw_170, zp_170, zw_171, zp_171, zw_172, zp_172, zw_173, zp_173, zw_174, zp_174, zw_175, zp_175, zw_176, zp_176, zw_177, zp_177, zw_178, zp_178, zw_179, zp_179, yg12_0, yg12_1, yg12_2, yg12_3, yg12_4, yg12_5, yg12_6, yg12_7, yg12_8, yg12_9, yg12_10, yg12_11, yg12_12, yg12_13, yg12_14, yg12_15, yg12_16, yg12_17, yg12_18, yg12_19, yg12_20, yp12_0, yp12_1, yp12_2, yp12_3, yp12_4, yp12_5, yp12_6, yp12_7, yp12_8, yp12_9, yp12_10, yp12_11, yp12_12, yp12_13, yp12_14, yp12_15, yp12_16, yp12_17, yp12_18, yp12_19, yp12_20, tX12_isBlend, tX12_isIn, hsh]))
    · refine zOK_r (.int (zI (-2))) H (fun z => ?_) (fun z => ?_)
      · rw [qX11_scale rfl]
        repeat' (first | rfl | (exfalso; first | omega | contradiction) | split | (rw [zruns_N 400]; simp (disch := first | assumption | omega | decide | ((simp (disch := omega) only [zup_ne, zup_eq]); first | assumption | omega)) only [sX11_scale_0, sX11_scale_1, sX11_scale_4, sX11_scale_7, sX11_scale_8, sX11_scale_9, sX11_scale_10, sX11_scale_11, sX11_scale_14, sX11_scale_17, sX11_scale_20, sX11_scale_22, zkp_i, zkp_a, zkp_f, zkp_l, zkp_d, zkp_n, ycl_eq, zI_add, zI_sub, zI_mul, zI_neg, zI_inj, zI_lt, zI_le, zI_eq0, zI_lt0, zI_gt0, zI_le0, zI_ge0, yil_ok, yll_ok, yfl_ok, yis_ok, yls_ok, yfs_ok, y0_s, y1_s, ybo_ok, zset_w, zruns_if, zui_eq, zus_eq, zup_eq, Int.reduceAdd, Int.reduceSub, Int.reduceMul, Int.reduceNeg, Int.reduceLT, Int.reduceLE, Int.reduceEq, if_true, if_false, not_true_eq_false, not_false_eq_true, zw_0, zp_0_2, zw_1, zw_2, zp_2_5, zw_3, zp_3, zw_4, zp_4, zw_5, zp_5, zw_6, zp_6, zw_7, zp_7, zw_8, zw_9, zp_9_5, zw_10, zp_10, zw_11, zp_11, zw_12, zp_12, zw_13, zp_13, zw_14, zp_14, zw_15, zp_15_5, zw_16, zp_16, zw_17, zp_17, zw_18, zp_18, zw_19, zp_19, zw_20, zp_20, zw_65, zw_66, zp_66_5, zw_67, zp_67, zw_68, zp_68, zw_69, zp_69, zw_70, zp_70, zw_71, zp_71, zw_72, zw_73, zp_73_5, zw_74, zp_74, zw_75, zp_75, zw_76, zp_76, zw_77, zp_77, zw_78, zp_78, zw_79, zp_79_5, zw_80, zp_80, zw_81, zp_81, zw_82, zp_82, zw_83, zp_83, zw_84, zp_84, zw_129, zp_129_1, zw_130, zp_130, zw_131, zp_131_1, zw_132, zp_132, zw_133, zp_133_5, zp_133_6, zp_133_7, zw_134, zp_134, zw_135, zp_135, zw_136, zp_136, zw_137, zw_138, zp_138_1, zw_139, zp_139, zw_140, zp_140_1, zw_141, zp_141, zw_142, zp_142, zw_143, zw_144, zp_144_1, zw_145, zp_145, zw_146, zp_146_4, zw_147, zp_147, zw_148, zp_148, zw_149, zp_149, zw_150, zp_150, zw_151, zw_152, zp_152, zw_153, zp_153_1, zp_153_2, zp_153_3, zw_154, zp_154, zw_155, zp_155_1, zp_155_2, zp_155_3, zw_156, zp_156, zw_157, zp_157_1, zp_157_2, zp_157_3, zw_158, zp_158, zw_159, zp_159_1, zp_159_2, zp_159_3, zw_160, zp_160, zw_161, zp_161_1, zp_161_2, zp_161_3, zw_162, zp_162, zw_163, zp_163_1, zp_163_2, zp_163_3, zw_164, zp_164, yg0_0, yg0_1, yg0_2, yg0_3, yg0_4, yg1_0, yg1_1, yg1_2, yg1_3, yg2_0, yg2_1, yg2_2, yg3_0, yg3_1, yg4_0, yg5_0, yg5_1, yg5_2, yg5_3, yg5_4, yg5_5, yg6_0, yg6_1, yg6_2, yg6_3, yg6_4, yg6_5, yg7_0, yg7_1, yg7_2, yg7_3, yg7_4, yg7_5, yg7_6, yg7_7, yg8_0, yg8_1, yg8_2, yg8_3, yg9_0, yg9_1, yg9_2, yg9_3, yg9_4, yg9_5, yg10_0, yg10_1, yg11_0, yg11_1, yg11_2, yg11_3, yg11_4, yg11_5, yg11_6, yg11_7, yg11_8, yg11_9, yg11_10, yp0_0, yp0_1, yp0_2, yp0_3, yp0_4, yp1_0, yp1_1, yp1_2, yp1_3, yp2_0, yp2_1, yp2_2, yp3_0, yp3_1, yp4_0, yp5_0, yp5_1, yp5_2, yp5_3, yp5_4, yp5_5, yp6_0, yp6_1, yp6_2, yp6_3, yp6_4, yp6_5, yp7_0, yp7_1, yp7_2, yp7_3, yp7_4, yp7_5, yp7_6, yp7_7, yp8_0, yp8_1, yp8_2, yp8_3, yp9_0, yp9_1, yp9_2, yp9_3, yp9_4, yp9_5, yp10_0, yp10_1, yp11_0, yp11_1, yp11_2, yp11_3, yp11_4, yp11_5, yp11_6, yp11_7, yp11_8, yp11_9, yp11_10, tX11_isBlend, tX11_isWithin]))
      · rw [qX12_scale rfl]
        repeat' (first | rfl | (exfalso; first | omega | contradiction) | split | (rw [zruns_N 400]; simp (disch := first | assumption | omega | decide | ((simp (disch := omega) only [zup_ne, zup_eq]); first | assumption | omega)) only [sX12_scale_0, sX12_scale_1, sX12_scale_4, sX12_scale_7, sX12_scale_8, sX12_scale_9, sX12_scale_10, sX12_scale_11, sX12_scale_14, sX12_scale_17, sX12_scale_20, sX12_scale_22, zkp_i, zkp_a, zkp_f, zkp_l, zkp_d, zkp_n, ycl_eq, zI_add, zI_sub, zI_mul, zI_neg, zI_inj, zI_lt, zI_le, zI_eq0, zI_lt0, zI_gt0, zI_le0, zI_ge0, yil_ok, yll_ok, yfl_ok, yis_ok, yls_ok, yfs_ok, y0_s, y1_s, ybo_ok, zset_w, zruns_if, zui_eq, zus_eq, zup_eq, Int.reduceAdd, Int.reduceSub, Int.reduceMul, Int.reduceNeg, Int.reduceLT, Int.reduceLE, Int.reduceEq, if_true, if_false, not_true_eq_false, not_false_eq_true, zw_165, zp_165_2, zp_165_9, zp_165_10, zp_165_11, zp_165_12, zp_165_13, zp_165_14, zw_166, zp_166, zw_167, zp_167, zw_168, zp_168, zw_169, zp_169, zw_170, zp_170, zw_171, zp_171, zw_172, zp_172, zw_173, zp_173, zw_174, zp_174, zw_175, zp_175, zw_176, zp_176, zw_177, zp_177, zw_178, zp_178, zw_179, zp_179, yg12_0, yg12_1, yg12_2, yg12_3, yg12_4, yg12_5, yg12_6, yg12_7, yg12_8, yg12_9, yg12_10, yg12_11, yg12_12, yg12_13, yg12_14, yg12_15, yg12_16, yg12_17, yg12_18, yg12_19, yg12_20, yp12_0, yp12_1, yp12_2, yp12_3, yp12_4, yp12_5, yp12_6, yp12_7, yp12_8, yp12_9, yp12_10, yp12_11, yp12_12, yp12_13, yp12_14, yp12_15, yp12_16, yp12_17, yp12_18, yp12_19, yp12_20, tX12_isBlend, tX12_isIn]))
  · refine zOK_r (.int (zI (-1))) H (fun z => ?_) (fun z => ?_)
    · rw [qX11_scale rfl]
      repeat' (first | rfl | (exfalso; first | omega | contradiction) | split | (rw [zruns_N 400]; simp (disch := first | assumption | omega | decide | ((simp (disch := omega) only [zup_ne, zup_eq]); first | assumption | omega)) only [sX11_scale_0, sX11_scale_1, sX11_scale_4, sX11_scale_7, sX11_scale_8, sX11_scale_9, sX11_scale_10, sX11_scale_11, sX11_scale_14, sX11_scale_17, sX11_scale_20, sX11_scale_22, zkp_i, zkp_a, zkp_f, zkp_l, zkp_d, zkp_n, ycl_eq, zI_add, zI_sub, zI_mul, zI_neg, zI_inj, zI_lt, zI_le, zI_eq0, zI_lt0, zI_gt0, zI_le0, zI_ge0, yil_ok, yll_ok, yfl_ok, yis_ok, yls_ok, yfs_ok, y0_s, y1_s, ybo_ok, zset_w, zruns_if, zui_eq, zus_eq, zup_eq, Int.reduceAdd, Int.reduceSub, Int.reduceMul, Int.reduceNeg, Int.reduceLT, Int.reduceLE, Int.reduceEq, if_true, if_false, not_true_eq_false, not_false_eq_true, zw_0, zp_0_2, zw_1, zw_2, zp_2_5, zw_3, zp_3, zw_4, zp_4, zw_5, zp_5, zw_6, zp_6, zw_7, zp_7, zw_8, zw_9, zp_9_5, zw_10, zp_10, zw_11, zp_11, zw_12, zp_12, zw_13, zp_13, zw_14, zp_14, zw_15, zp_15_5, zw_16, zp_16, zw_17, zp_17, zw_18, zp_18, zw_19, zp_19, zw_20, zp_20, zw_65, zw_66, zp_66_5, zw_67, zp_67, zw_68, zp_68, zw_69, zp_69, zw_70, zp_70, zw_71, zp_71, zw_72, zw_73, zp_73_5, zw_74, zp_74, zw_75, zp_75, zw_76, zp_76, zw_77, zp_77, zw_78, zp_78, zw_79, zp_79_5, zw_80, zp_80, zw_81, zp_81, zw_82, zp_82, zw_83, zp_83, zw_84, zp_84, zw_129, zp_129_1, zw_130, zp_130, zw_131, zp_131_1, zw_132, zp_132, zw_133, zp_133_5, zp_133_6, zp_133_7, zw_134, zp_134, zw_135, zp_135, zw_136, zp_136, zw_137, zw_138, zp_138_1, zw_139, zp_139, zw_140, zp_140_1, zw_141, zp_141, zw_142, zp_142, zw_143, zw_144, zp_144_1, zw_145, zp_145, zw_146, zp_146_4, zw_147, zp_147, zw_148, zp_148, zw_149, zp_149, zw_150, zp_150, zw_151, zw_152, zp_152, zw_153, zp_153_1, zp_153_2, zp_153_3, zw_154, zp_154, zw_155, zp_155_1, zp_155_2, zp_155_3, zw_156, zp_156, zw_157, zp_157_1, zp_157_2, zp_157_3, zw_158, zp_158, zw_159, zp_159_1, zp_159_2, zp_159_3, zw_160, zp_160, zw_161, zp_161_1, zp_161_2, zp_161_3, zw_162, zp_162, zw_163, zp_163_1, zp_163_2, zp_163_3, zw_164, zp_164, yg0_0, yg0_1, yg0_2, yg0_3, yg0_4, yg1_0, yg1_1, yg1_2, yg1_3, yg2_0, yg2_1, yg2_2, yg3_0, yg3_1, yg4_0, yg5_0, yg5_1, yg5_2, yg5_3, yg5_4, yg5_5, yg6_0, yg6_1, yg6_2, yg6_3, yg6_4, yg6_5, yg7_0, yg7_1, yg7_2, yg7_3, yg7_4, yg7_5, yg7_6, yg7_7, yg8_0, yg8_1, yg8_2, yg8_3, yg9_0, yg9_1, yg9_2, yg9_3, yg9_4, yg9_5, yg10_0, yg10_1, yg11_0, yg11_1, yg11_2, yg11_3, yg11_4, yg11_5, yg11_6, yg11_7, yg11_8, yg11_9, yg11_10, yp0_0, yp0_1, yp0_2, yp0_3, yp0_4, yp1_0, yp1_1, yp1_2, yp1_3, yp2_0, yp2_1, yp2_2, yp3_0, yp3_1, yp4_0, yp5_0, yp5_1, yp5_2, yp5_3, yp5_4, yp5_5, yp6_0, yp6_1, yp6_2, yp6_3, yp6_4, yp6_5, yp7_0, yp7_1, yp7_2, yp7_3, yp7_4, yp7_5, yp7_6, yp7_7, yp8_0, yp8_1, yp8_2, yp8_3, yp9_0, yp9_1, yp9_2, yp9_3, yp9_4, yp9_5, yp10_0, yp10_1, yp11_0, yp11_1, yp11_2, yp11_3, yp11_4, yp11_5, yp11_6, yp11_7, yp11_8, yp11_9, yp11_10, tX11_isBlend, tX11_isWithin]))
    · rw [qX12_scale rfl]
      repeat' (first | rfl | (exfalso; first | omega | contradiction) | split | (rw [zruns_N 400]; simp (disch := first | assumption | omega | decide | ((simp (disch := omega) only [zup_ne, zup_eq]); first | assumption | omega)) only [sX12_scale_0, sX12_scale_1, sX12_scale_4, sX12_scale_7, sX12_scale_8, sX12_scale_9, sX12_scale_10, sX12_scale_11, sX12_scale_14, sX12_scale_17, sX12_scale_20, sX12_scale_22, zkp_i, zkp_a, zkp_f, zkp_l, zkp_d, zkp_n, ycl_eq, zI_add, zI_sub, zI_mul, zI_neg, zI_inj, zI_lt, zI_le, zI_eq0, zI_lt0, zI_gt0, zI_le0, zI_ge0, yil_ok, yll_ok, yfl_ok, yis_ok, yls_ok, yfs_ok, y0_s, y1_s, ybo_ok, zset_w, zruns_if, zui_eq, zus_eq, zup_eq, Int.reduceAdd, Int.reduceSub, Int.reduceMul, Int.reduceNeg, Int.reduceLT, Int.reduceLE, Int.reduceEq, if_true, if_false, not_true_eq_false, not_false_eq_true, zw_165, zp_165_2, zp_165_9, zp_165_10, zp_165_11, zp_165_12, zp_165_13, zp_165_14, zw_166, zp_166, zw_167, zp_167, zw_168, zp_168, zw_169, zp_169, zw_170, zp_170, zw_171, zp_171, zw_172, zp_172, zw_173, zp_173, zw_174, zp_174, zw_175, zp_175, zw_176, zp_176, zw_177, zp_177, zw_178, zp_178, zw_179, zp_179, yg12_0, yg12_1, yg12_2, yg12_3, yg12_4, yg12_5, yg12_6, yg12_7, yg12_8, yg12_9, yg12_10, yg12_11, yg12_12, yg12_13, yg12_14, yg12_15, yg12_16, yg12_17, yg12_18, yg12_19, yg12_20, yp12_0, yp12_1, yp12_2, yp12_3, yp12_4, yp12_5, yp12_6, yp12_7, yp12_8, yp12_9, yp12_10, yp12_11, yp12_12, yp12_13, yp12_14, yp12_15, yp12_16, yp12_17, yp12_18, yp12_19, yp12_20, tX12_isBlend, tX12_isIn]))
end SCALE
